section
/-! ===== BEGIN words of one list among another's, by their places ===== -/
theorem goodIn_r {big : List Cond} (ws : List Cond) (ps : List Nat) (hp : ws = ps.filterMap (fun i => big[i]?)) (h : ws.all goodWord = true) : GoodIn big ws := by
  intro w hw
  have h1 := List.all_eq_true.mp h w hw
  rw [hp] at hw
  obtain ⟨i, -, hi⟩ := List.mem_filterMap.mp hw
  have hm : w ∈ big := by first | exact List.mem_of_getElem? hi | exact List.getElem?_mem hi
  exact ⟨hm, good_of_word h1⟩
theorem goodIn_app {big a b : List Cond} (ha : GoodIn big a) (hb : GoodIn big b) : GoodIn big (a ++ b) := fun w h => (List.mem_append.mp h).elim (ha w) (hb w)
theorem goodIn_ca {big a b : List Cond} {c : Cond} (ha : GoodIn big (c :: a)) (hb : GoodIn big b) : GoodIn big (c :: (a ++ b)) := fun w h => (List.mem_cons.mp h).elim (fun e => ha w (List.mem_cons.mpr (Or.inl e))) (fun h => (List.mem_append.mp h).elim (fun h => ha w (List.mem_cons.mpr (Or.inr h))) (hb w))
theorem goodIn_sub {big ws : List Cond} (hm : ∀ w ∈ ws, w ∈ big) (h : ws.all goodWord = true) : GoodIn big ws := fun w hw => ⟨hm w hw, good_of_word (List.all_eq_true.mp h w hw)⟩
/-! ===== END ===== -/

/-! ===== BEGIN exceptions that leave a method, and their catching by the caller (launches without stack traces) ===== -/
section VXA
/-! The laws vx_back, vx_callV, vx_callS, vx_callSW, vx_throw0, vx_throwS follow proofs of the library, with one case more: JvmDerived/Free/Laws.lean (Back.of_free), Shelf42/LK1.lean (callV, callS), Shelf/KitTraced.lean (throwNew0V, throwNewS). -/
/-- where a method has thrown q: the class by its name, the cell, what was written, the world -/
def vx_T (XC : String → State → State → Prop) (st : State) (q : Addr) (t : State) (mc ms : Nat) (free : Addr → Prop) : Prop :=
  ∃ (E : String) (ce : Cell) (L : List Loc), XC E st t ∧ t.heap[q]? = some ce ∧ ce.vm = .none ∧ st.vm.findClass E = some ce.cls ∧ st.WarmedH t.vm ∧ st.sameButNew ({ t with vm := st.vm } : State) L mc ms ∧ ∀ z ∈ L, free z.base
def vx_Q (Qc : Array Value → State → Outcome → State → Prop) (XC : String → State → State → Prop) (mc ms : Nat) (free : Addr → Prop) : Array Value → State → Outcome → State → Prop := fun a st o t =>
  (Qc a st o t ∧ ∃ L, FrameEnd st o t L mc ms ∧ ∀ q ∈ L, free q.base) ∨ ∃ q, o = .threw q ∧ vx_T XC st q t mc ms free
/-- a callee that returns or throws -/
def vx_Met (l : Launch) (y : MethodName) (ws : List Cond) (rm : Room) (Pc : Array Value → State → Prop) (Qc : Array Value → State → Outcome → State → Prop) (XC : String → State → State → Prop) (mc ms : Nat) (free : Addr → Prop) : Prop :=
  MetFree l y (headSpec ws rm) Pc (fun _ _ _ _ _ => True) (vx_Q Qc XC mc ms free)
def vx_Post (XC : String → State → State → Prop) (mc ms : Nat) (free : Addr → Prop) : Pt → Array Value → Addr → Pt → Prop := fun A a q B =>
  ∃ (g : JFrame) (mk : MethodId) (t : State) (L : List Loc) (E : String) (ce : Cell), B.U.heap = t.heap ∧ B.U.vm = t.vm ∧ XC E (A.U.calling g mk a) t ∧ t.heap[q]? = some ce ∧ ce.vm = .none ∧ A.U.vm.findClass E = some ce.cls ∧ B.locs = A.locs ++ L ∧ (∀ z ∈ L, free z.base) ∧ B.cells = A.cells + mc ∧ B.slots = A.slots + ms
def vx_Back (l : Launch) (R : Room) (p : Program) (e : Env) (below : List Frame) (s : State) (sargs : Array Value) (y : MethodName) (len W9 : Nat)
    (Pre : Pt → Array Value → Prop) (Post : Pt → Array Value → Option Value → Pt → Prop) (PostX : Pt → Array Value → Addr → Pt → Prop) : Prop :=
  ∀ (m : MethodId) (meth : Method) (c : Code) (A : Pt) (g : JFrame) (ig : Instr) (mk : MethodId) (a : Array Value),
    Stand p l e R s m sargs below meth c A.U A.locs A.cells A.slots → g.method = m → g.locals.size = c.maxLocals → decode c.code g.pc = .ok (ig, len) →
    2 * g.monitorRoom + (g.stack.map fun v => v.category).sum ≤ W9 → A.U.methodNamed? y = some mk → Pre A a →
    (∃ (v : Option Value) (B : Pt), Stand p l e R s m sargs below meth c B.U B.locs B.cells B.slots ∧ Post A a v B ∧
      Steps p.tables e below (doInvoke e (A.U.setTop g) [] mk a).1 (B.U.setTop { g with pc := g.pc + len, stack := v.toList ++ g.stack })) ∨
    (∃ (q : Addr) (B : Pt), Stand p l e R s m sargs below meth c B.U B.locs B.cells B.slots ∧ PostX A a q B ∧
      Steps p.tables e below (doInvoke e (A.U.setTop g) [] mk a).1 ((B.U.setTop g).pushFrame (.throwing q)))
section Payer
variable {l : Launch} {R : Room} {p : Program} {e : Env} {below : List Frame} {s : State} {sargs : Array Value} {y : MethodName} {len W9 : Nat}
theorem vx_back {ws : List Cond} {rm : Room} {Pc : Array Value → State → Prop} {Qc : Array Value → State → Outcome → State → Prop} {XC : String → State → State → Prop} {mc ms : Nat} {free : Addr → Prop} {bytes : ByteArray} {maxL : Nat} {ret : Option FieldType}
    (hM : vx_Met l y ws rm Pc Qc XC mc ms free) (hblind : FrameBlind Pc) (hrc : rm.cells = mc) (hrs : rm.slots = ms)
    (hframes : rm.frames + 1 ≤ R.frames) (hlocals : W9 + (maxL + 11) + rm.locals ≤ R.locals)
    (hws : ∀ w ∈ ws, ∀ a' U, s.WarmedH U.vm → w.before a' U = true) (hcode : Cond.code y bytes maxL ret ∈ ws) (hinit : ∀ a' U, s.WarmedH U.vm → (Cond.initialized y.cls).before a' U = true) :
    vx_Back l R p e below s sargs y len W9 (PreOf R mc ms Pc) (PostOf Qc mc ms free) (vx_Post XC mc ms free) := by
  intro m meth c A g ig mk a X hg hsize hdg hW hn hp
  have h1 : (headSpec ws rm).pre.before a A.U = true := atoms_intro fun w hw => hws w hw _ _ X.warmed
  have h2 : (Cond.code y bytes maxL ret).before a A.U = true := hws _ hcode _ _ X.warmed
  have h3 : (Cond.initialized y.cls).before a A.U = true := hinit _ _ X.warmed
  have h4 : A.cells + (headSpec ws rm).room.cells ≤ R.cells := by rw [show (headSpec ws rm).room.cells = mc from hrc]; exact hp.1
  have h5 : A.slots + (headSpec ws rm).room.slots ≤ R.slots := by rw [show (headSpec ws rm).room.slots = ms from hrs]; exact hp.2.1
  have hPc : Pc a (A.U.calling g mk a) := hblind _ _ _ _ hp.2.2
  obtain ⟨U, Ls, c0, s0⟩ := A
  dsimp only [Pt.U, Pt.locs, Pt.cells, Pt.slots] at h1 h2 h3 h4 h5 X hn hPc ⊢
  obtain ⟨methY, cY, hmY, hcY, -, hlY, -, -, -, -⟩ := Cond.code_spec hn h2
  obtain ⟨kY, hkY, -⟩ := className_of_methodNamed hn
  have hinitY : kY.init = .initialized := Cond.initialized_spec (findClass_of_methodNamed hn) hkY h3
  have h : At U g.method c below := by rw [hg]; exact X.here
  have hlocals9 : W9 + (maxL + 11) + (headSpec ws rm).room.locals ≤ R.locals := hlocals
  have happ : (headSpec ws rm).appliesLoose y e.platform (U.calling g mk a) = true :=
    Spec.appliesLoose_calling (g := g) h hdg hn hkY hinitY
      (X.room_calling (g := g) (R' := (headSpec ws rm).room) hsize hmY hcY hframes (by rw [hlY]; omega) h4 h5) h1
  obtain ⟨mid, hmid⟩ := h.above
  have hfr : (U.setTop g).frames = (.java g :: mid) ++ below := by rw [State.frames_setTop' g h.top, hmid]; rfl
  obtain ⟨o, s₂, hsteps, -, hend, hq⟩ := Steps.callFree hM p X.admits X.cas X.clock (acts := []) hfr happ hPc trivial
  have hq' : vx_Q Qc XC mc ms free a (U.calling g mk a) o s₂ := hq
  rw [State.frames_setTop' g h.top] at hend
  obtain ⟨g₀, hg0⟩ := Option.isSome_iff_exists.mp h.top
  obtain ⟨r, hr⟩ := State.topJava?_eq_some.mp hg0
  have hr' : (({ U with heap := s₂.heap, slotsUsed := s₂.slotsUsed } : State).setVm s₂.vm).frames = .java g₀ :: r := hr
  rcases hq' with ⟨hqc, L, hfe, hL⟩ | ⟨q, rfl, E, ce, L, hx, hce, hcv, hcl, hW₂, hsm, hL⟩
  · obtain ⟨⟨v, rfl⟩, hW₂, e2, q2, q3, q4, q5, q6⟩ := id hfe
    have e3 : s₂ = ({ (U.calling g mk a).setFrames s₂.frames with heap := s₂.heap, slotsUsed := s₂.slotsUsed } : State).setVm s₂.vm := by
      have : s₂ = ({ s₂ with vm := (U.calling g mk a).vm } : State).setVm s₂.vm := rfl
      rw [e2] at this
      exact this
    obtain ⟨c₂, i₂, len₂, hc₂, hd₂, hf₂⟩ := hend
    have hW' : U.WarmedH s₂.vm := hW₂
    have hcc : c₂ = c := by
      have h1 : s₂.code? g.method = U.code? g.method := by
        rw [State.code?_eq, State.code?_eq, hW'.alike.method?]
      exact Option.some.inj (hc₂.symm.trans (h1.trans h.code))
    subst hcc
    have hlen : len₂ = len := by rw [hdg] at hd₂; cases hd₂; rfl
    subst hlen
    have hs₂ : s₂ = (({ U with heap := s₂.heap, slotsUsed := s₂.slotsUsed } : State).setVm s₂.vm).setTop { g with pc := g.pc + len₂, stack := v.toList ++ g.stack } := by
      refine e3.trans ?_
      rw [hf₂, State.calling_eq h.top, State.setFrames_setFrames, State.setTop_of_frames _ hr', hr]
      rfl
    have hsame : U.sameButNew ({ U with heap := s₂.heap, slotsUsed := s₂.slotsUsed } : State) L mc ms := by
      refine ⟨?_, q2, q3, q4, q5, q6⟩
      obtain ⟨t, ht, -⟩ := State.frames_cons hr
      show ({ U with heap := s₂.heap, slotsUsed := s₂.slotsUsed } : State) = { U.setFrames U.frames with heap := s₂.heap, slotsUsed := s₂.slotsUsed }
      rw [State.setFrames_self ht]
    subst hg
    refine Or.inl ⟨v, ⟨(({ U with heap := s₂.heap, slotsUsed := s₂.slotsUsed } : State).setVm s₂.vm), Ls ++ L, c0 + mc, s0 + ms⟩,
      ⟨X.admits, X.cas, X.clock, X.frames, X.room, X.hears, X.method, X.code, (X.here.setHeapUsed s₂.heap s₂.slotsUsed).setVm hW'.alike, X.tail, State.WarmedH.trans X.warmed hW', X.limits, X.bytes, X.same.trans (hsame.setVm s.vm)⟩,
      ⟨g, mk, s₂, L, rfl, rfl, hqc, rfl, hL, rfl, rfl⟩, ?_⟩
    show Steps p.tables e below _ ((({ U with heap := s₂.heap, slotsUsed := s₂.slotsUsed } : State).setVm s₂.vm).setTop { g with pc := g.pc + len₂, stack := v.toList ++ g.stack })
    rw [← hs₂]
    exact hsteps
  · obtain ⟨e2, q2, q3, q4, q5, q6⟩ := id hsm
    have e3 : s₂ = ({ (U.calling g mk a).setFrames s₂.frames with heap := s₂.heap, slotsUsed := s₂.slotsUsed } : State).setVm s₂.vm := by
      have : s₂ = ({ s₂ with vm := (U.calling g mk a).vm } : State).setVm s₂.vm := rfl
      rw [e2] at this
      exact this
    have hf₂ : s₂.frames = .throwing q :: .java g :: U.frames.tail := hend
    have hW' : U.WarmedH s₂.vm := hW₂
    have hs₂ : s₂ = ((({ U with heap := s₂.heap, slotsUsed := s₂.slotsUsed } : State).setVm s₂.vm).setTop g).pushFrame (.throwing q) := by
      refine e3.trans ?_
      rw [hf₂, State.calling_eq h.top, State.setFrames_setFrames, State.pushFrame, State.frames_setTop _ hr', State.setTop_of_frames _ hr', State.setFrames_setFrames, hr]
      rfl
    have hsame : U.sameButNew ({ U with heap := s₂.heap, slotsUsed := s₂.slotsUsed } : State) L mc ms := by
      refine ⟨?_, q2, q3, q4, q5, q6⟩
      obtain ⟨t, ht, -⟩ := State.frames_cons hr
      show ({ U with heap := s₂.heap, slotsUsed := s₂.slotsUsed } : State) = { U.setFrames U.frames with heap := s₂.heap, slotsUsed := s₂.slotsUsed }
      rw [State.setFrames_self ht]
    subst hg
    refine Or.inr ⟨q, ⟨(({ U with heap := s₂.heap, slotsUsed := s₂.slotsUsed } : State).setVm s₂.vm), Ls ++ L, c0 + mc, s0 + ms⟩,
      ⟨X.admits, X.cas, X.clock, X.frames, X.room, X.hears, X.method, X.code, (X.here.setHeapUsed s₂.heap s₂.slotsUsed).setVm hW'.alike, X.tail, State.WarmedH.trans X.warmed hW', X.limits, X.bytes, X.same.trans (hsame.setVm s.vm)⟩,
      ⟨g, mk, s₂, L, E, ce, rfl, rfl, hx, hce, hcv, hcl, rfl, hL, rfl, rfl⟩, ?_⟩
    show Steps p.tables e below _ (((({ U with heap := s₂.heap, slotsUsed := s₂.slotsUsed } : State).setVm s₂.vm).setTop g).pushFrame (.throwing q))
    rw [← hs₂]
    exact hsteps
end Payer
section Calls
variable {p : Program} {l : Launch} {e : Env} {R : Room} {s : State} {m : MethodId} {args : Array Value} {below : List Frame} {meth : Method} {c : Code} {T : State} {locs : List Loc} {cells slots : Nat}
theorem vx_callV (X : Stand p l e R s m args below meth c T locs cells slots) (hexec : p.tables.exec = Jvm.exec) {own C : String} {index : Nat} {y : MethodName} {bytes : ByteArray} {maxL : Nat} {ret : Option FieldType}
    (hown : s.vm.findClass own = some m.cls) (hlink : (Cond.methodLink own index y).before args s = true) (hinst : (Cond.instanceMethod y).before args s = true) (hsel : (Cond.selects C y y).before args s = true)
    (hcode : (Cond.code y bytes maxL ret).before args s = true) (hy : y.cls ≠ "java/lang/invoke/MethodHandle" ∧ y.cls ≠ "java/lang/invoke/VarHandle")
    {W9 : Nat} {Pre : Pt → Array Value → Prop} {Post : Pt → Array Value → Option Value → Pt → Prop} {PostX : Pt → Array Value → Addr → Pt → Prop} (hK : vx_Back l R p e below s args y 3 W9 Pre Post PostX)
    {b : Addr} {cellB : Cell} (hcell : T.heap[b]? = some cellB) (hobj : cellB.vm.isStatics = false) (hcls : s.vm.findClass C = some cellB.cls)
    {g : JFrame} (hg : g.method = m) (hsize : g.locals.size = c.maxLocals) {argsL rest : List Value} (hlen : ∀ sig, parseMethodDescriptor y.desc = some sig → argsL.length = sig.parameters.length)
    (hstack : g.stack = argsL.reverse ++ .ref b :: rest) (hW : 2 * g.monitorRoom + (rest.map fun v => v.category).sum ≤ W9) (hdg : decode c.code g.pc = .ok (.invokevirtual index, 3))
    (hpre : ∀ vm₁, s.WarmedH vm₁ → Pre ⟨T.setVm vm₁, locs, cells, slots⟩ (Value.ref b :: argsL).toArray) :
    (∃ (v : Option Value) (vm₁ : Vm) (B : Pt), s.WarmedH vm₁ ∧ Stand p l e R s m args below meth c B.U B.locs B.cells B.slots ∧ Post ⟨T.setVm vm₁, locs, cells, slots⟩ (Value.ref b :: argsL).toArray v B ∧
      ∀ target, Steps p.tables e below (B.U.setTop { g with pc := g.pc + 3, stack := v.toList ++ rest }) target → Steps p.tables e below (T.setTop g) target) ∨
    (∃ (q : Addr) (vm₁ : Vm) (B : Pt), s.WarmedH vm₁ ∧ Stand p l e R s m args below meth c B.U B.locs B.cells B.slots ∧ PostX ⟨T.setVm vm₁, locs, cells, slots⟩ (Value.ref b :: argsL).toArray q B ∧
      Steps p.tables e below (T.setTop g) ((B.U.setTop { g with stack := rest }).pushFrame (.throwing q))) := by
  obtain ⟨mk, methM, hnamed, hmethM, hstM, habM⟩ := Cond.instanceMethod_spec hinst
  obtain ⟨methM', cM, hmethM', -, -, -, -, -, -, hsigM⟩ := Cond.code_spec hnamed hcode
  cases hmethM.symm.trans hmethM'
  obtain ⟨c2, r2, m2, q1, q2, q3, q4, kP, hkP, hkPi⟩ := Cond.selects_spec hsel
  cases hcls.symm.trans q1
  cases (State.methodFound?_of_named hnamed hy).symm.trans q2
  cases hnamed.symm.trans q3
  have hselP : selectMethod e.platform s.vm cellB.cls mk = .method mk := by rw [Launch.admits_selectMethod X.admits]; exact q4
  obtain ⟨vm₁, X₁, hstep₁⟩ := X.invokevirtual hexec hown hlink hnamed hmethM hstM hkP hkPi hy (a := b) (cell := cellB) hcell
    (fun z h => by rw [h] at hobj; cases hobj) hselP hmethM habM hkP hkPi (g := g) hg (argsL := argsL) (rest := rest) (hlen _ hsigM) hstack hdg
  rcases hK m meth c ⟨T.setVm vm₁, locs, cells, slots⟩ { g with stack := rest } (.invokevirtual index) mk (Value.ref b :: argsL).toArray X₁ hg hsize hdg hW (X₁.named hnamed) (hpre vm₁ X₁.warmed) with ⟨v, B, X', hpost, hsteps⟩ | ⟨q, B, X', hpost, hsteps⟩
  · exact Or.inl ⟨v, vm₁, B, X₁.warmed, X', hpost, fun target h => hstep₁ _ fun acts => by rw [doInvoke_state]; exact hsteps.trans h⟩
  · exact Or.inr ⟨q, vm₁, B, X₁.warmed, X', hpost, hstep₁ _ fun acts => by rw [doInvoke_state]; exact hsteps⟩
theorem vx_callS (X : Stand p l e R s m args below meth c T locs cells slots) (hexec : p.tables.exec = Jvm.exec) {own : String} {index : Nat} {y : MethodName} {bytes : ByteArray} {maxL : Nat} {ret : Option FieldType}
    (hown : s.vm.findClass own = some m.cls) (hlink : (Cond.methodLink own index y).before args s = true) (hstat : (Cond.static y).before args s = true) (hinit : (Cond.initialized y.cls).before args s = true)
    (hcode : (Cond.code y bytes maxL ret).before args s = true) (hy : y.cls ≠ "java/lang/invoke/MethodHandle" ∧ y.cls ≠ "java/lang/invoke/VarHandle")
    {W9 : Nat} {Pre : Pt → Array Value → Prop} {Post : Pt → Array Value → Option Value → Pt → Prop} {PostX : Pt → Array Value → Addr → Pt → Prop} (hK : vx_Back l R p e below s args y 3 W9 Pre Post PostX)
    {g : JFrame} (hg : g.method = m) (hsize : g.locals.size = c.maxLocals) {argsL rest : List Value} (hlen : ∀ sig, parseMethodDescriptor y.desc = some sig → argsL.length = sig.parameters.length)
    (hstack : g.stack = argsL.reverse ++ rest) (hW : 2 * g.monitorRoom + (rest.map fun v => v.category).sum ≤ W9) (hdg : decode c.code g.pc = .ok (.invokestatic index, 3))
    (hpre : ∀ vm₁, s.WarmedH vm₁ → Pre ⟨T.setVm vm₁, locs, cells, slots⟩ argsL.toArray) :
    (∃ (v : Option Value) (vm₁ : Vm) (B : Pt), s.WarmedH vm₁ ∧ Stand p l e R s m args below meth c B.U B.locs B.cells B.slots ∧ Post ⟨T.setVm vm₁, locs, cells, slots⟩ argsL.toArray v B ∧
      ∀ target, Steps p.tables e below (B.U.setTop { g with pc := g.pc + 3, stack := v.toList ++ rest }) target → Steps p.tables e below (T.setTop g) target) ∨
    (∃ (q : Addr) (vm₁ : Vm) (B : Pt), s.WarmedH vm₁ ∧ Stand p l e R s m args below meth c B.U B.locs B.cells B.slots ∧ PostX ⟨T.setVm vm₁, locs, cells, slots⟩ argsL.toArray q B ∧
      Steps p.tables e below (T.setTop g) ((B.U.setTop { g with stack := rest }).pushFrame (.throwing q))) := by
  obtain ⟨mk, hnamed⟩ := Cond.code_named hcode
  obtain ⟨methM, cM, hmethM, -, -, -, -, -, -, hsigM⟩ := Cond.code_spec hnamed hcode
  have hstatic : methM.isStatic = true := Cond.static_spec hnamed hmethM hstat
  obtain ⟨kP, hkP, -⟩ := className_of_methodNamed hnamed
  have hinitP : kP.init = .initialized := Cond.initialized_spec (findClass_of_methodNamed hnamed) hkP hinit
  obtain ⟨vm₁, X₁, hstep₁⟩ := X.invokestatic hexec hown hlink hnamed hmethM hstatic hkP hinitP hy (g := g) hg (argsL := argsL) (rest := rest) (hlen _ hsigM) hstack hdg
  rcases hK m meth c ⟨T.setVm vm₁, locs, cells, slots⟩ { g with stack := rest } (.invokestatic index) mk argsL.toArray X₁ hg hsize hdg hW (X₁.named hnamed) (hpre vm₁ X₁.warmed) with ⟨v, B, X', hpost, hsteps⟩ | ⟨q, B, X', hpost, hsteps⟩
  · exact Or.inl ⟨v, vm₁, B, X₁.warmed, X', hpost, fun target h => hstep₁ _ fun acts => by rw [doInvoke_state]; exact hsteps.trans h⟩
  · exact Or.inr ⟨q, vm₁, B, X₁.warmed, X', hpost, hstep₁ _ fun acts => by rw [doInvoke_state]; exact hsteps⟩
end Calls
theorem vx_cls {s : State} {T : State} {vm₁ : Vm} {E : String} {k : ClassId} (hW : s.WarmedH vm₁) (h : (T.setVm vm₁).vm.findClass E = some k) : s.vm.findClass E = some k := by
  have h1 : vm₁.findClass E = some k := h
  rw [hW.alike.findClass] at h1
  exact h1
/-- the method's frame g, with q thrown over it -/
def vx_W (p : Program) (l : Launch) (e : Env) (R : Room) (s : State) (m : MethodId) (args : Array Value) (below : List Frame) (meth : Method) (c : Code) (H : Heap) (locs : List Loc) (cells slots : Nat) (Q : State → Prop) (g : JFrame) (q : Addr) : Prop :=
  ∀ T : State, T.heap = H → Stand p l e R s m args below meth c T locs cells slots → ∃ t, Steps p.tables e below ((T.setTop g).pushFrame (.throwing q)) t ∧ Q t
def vx_Run (p : Program) (l : Launch) (e : Env) (R : Room) (s : State) (m : MethodId) (args : Array Value) (below : List Frame) (meth : Method) (c : Code) (H : Heap) (locs : List Loc) (cells slots mc ms : Nat) (g : JFrame) (rest : List Value) (Qa : State → Outcome → State → Prop) (XC : String → State → State → Prop) (free : Addr → Prop) : Prop :=
  ∀ T : State, T.heap = H → Stand p l e R s m args below meth c T locs cells slots →
    (∃ (v : Option Value) (st₀ t T' : State) (L : List Loc), st₀.heap = H ∧ Stand p l e R s m args below meth c T' (locs ++ L) (cells + mc) (slots + ms) ∧ (∀ q ∈ L, free q.base) ∧ T'.heap = t.heap ∧ T'.vm = t.vm ∧ Qa st₀ (.returned v) t ∧
      Goes p e below T g T' { g with pc := g.pc + 3, stack := v.toList ++ rest }) ∨
    (∃ (q : Addr) (st₀ t T' : State) (L : List Loc) (E : String) (ce : Cell), st₀.heap = H ∧ Stand p l e R s m args below meth c T' (locs ++ L) (cells + mc) (slots + ms) ∧ (∀ z ∈ L, free z.base) ∧ T'.heap = t.heap ∧ T'.vm = t.vm ∧ XC E st₀ t ∧ t.heap[q]? = some ce ∧ ce.vm = .none ∧ s.vm.findClass E = some ce.cls ∧
      Steps p.tables e below (T.setTop g) ((T'.setTop { g with stack := rest }).pushFrame (.throwing q)))
def vx_X {S : Type} (px : S → Prop) (B : String → S → State → Prop) (A : Nat → Prop) : String → State → State → Prop := fun E st t => ∃ u : S, px u ∧ B E u t ∧ va_F A st t
section Runs
variable {p : Program} {l : Launch} {e : Env} {R : Room} {s : State} {m : MethodId} {args : Array Value} {below : List Frame} {meth : Method} {c : Code} {H : Heap} {locs : List Loc} {cells slots : Nat}
variable {y : MethodName} {bytes cc : ByteArray} {maxL nL mc ms n index : Nat} {ret : Option FieldType} {ws : List Cond} {rm : Room} {Pc : Array Value → State → Prop} {Qc : Array Value → State → Outcome → State → Prop} {XC : String → State → State → Prop} {free : Addr → Prop} {Ts : List Cond} {own C : String} {b : Addr} {As rest : List Value} {g : JFrame}
theorem vx_callBack (cb : CallB R s args own index y bytes maxL ret ws rm mc ms n) (hM : vx_Met l y ws rm Pc Qc XC mc ms free) (hbl : FrameBlind Pc) : vx_Back l R p e below s args y 3 8 (PreOf R mc ms Pc) (PostOf Qc mc ms free) (vx_Post XC mc ms free) := by
  obtain ⟨hrc, hrs, hfr, hlo, hws, hcw, -, hini, -⟩ := cb
  exact vx_back (bytes := bytes) (maxL := maxL) (ret := ret) hM hbl hrc hrs hfr hlo hws hcw (fun a' U hW => word_at hW (Or.inl (by first | rfl | simp [Cond.onTables, Cond.keeps, Cond.steady])) hini)
theorem vx_runV (S : CallFix p m c cc nL s args Ts own) (hM : vx_Met l y ws rm Pc Qc XC mc ms free) (cw : CallW R s args own C index y bytes maxL ret ws rm mc ms n) (hp : PreV s H C b Pc As)
    (hg : g.method = m) (hn : As.length = n) (hsize : g.locals.size = nL) (hstack : g.stack = As.reverse ++ .ref b :: rest) (hW : 2 * g.monitorRoom + (rest.map fun v => v.category).sum ≤ 8) (hdg : decode cc g.pc = .ok (.invokevirtual index, 3)) (hf : cells + mc ≤ R.cells ∧ slots + ms ≤ R.slots) :
    vx_Run p l e R s m args below meth c H locs cells slots mc ms g rest (Qc (Value.ref b :: As).toArray) XC free := by
  have hK : vx_Back l R p e below s args y 3 8 (PreOf R mc ms Pc) (PostOf Qc mc ms free) (vx_Post XC mc ms free) := vx_callBack cw.1 hM hp.1
  obtain ⟨⟨-, -, -, -, -, -, hcode, -, hy, hlen, hl⟩, hin, hse⟩ := cw
  obtain ⟨hx, hb, hml, ho, -⟩ := S
  obtain ⟨-, ⟨cellB, hcB, hoB, hclB⟩, hPc⟩ := hp
  intro T hT X
  rcases vx_callV X hx (C := C) (bytes := bytes) (maxL := maxL) (ret := ret) ho hl hin hse hcode hy hK (by rw [hT]; exact hcB) hoB hclB hg (hsize.trans hml.symm) (argsL := As) (rest := rest) (fun sig h => hn.trans (hlen sig h)) hstack hW (by rw [hb]; exact hdg)
    (fun vm₁ hW₁ => ⟨hf.1, hf.2, hPc (T.setVm vm₁) hT hW₁⟩) with ⟨v, vm₁, ⟨U', l2, c2, s2⟩, hW₁, X', ⟨g', mk, t, L, e1, e2, hq, h1, hL, h2, h3⟩, st⟩ | ⟨q, vm₁, ⟨U', l2, c2, s2⟩, hW₁, X', ⟨g', mk, t, L, E, ce, e1, e2, hq, hce, hcv, hcl, h1, hL, h2, h3⟩, st⟩
  · dsimp only [Pt.U, Pt.locs, Pt.cells, Pt.slots] at X' e1 e2 h1 h2 h3 st
    subst h1; subst h2; subst h3
    exact Or.inl ⟨v, (T.setVm vm₁).calling g' mk (Value.ref b :: As).toArray, t, U', L, hT, X', hL, e1, e2, hq, st⟩
  · dsimp only [Pt.U, Pt.locs, Pt.cells, Pt.slots] at X' e1 e2 h1 h2 h3 st hcl
    subst h1; subst h2; subst h3
    exact Or.inr ⟨q, (T.setVm vm₁).calling g' mk (Value.ref b :: As).toArray, t, U', L, E, ce, hT, X', hL, e1, e2, hq, hce, hcv, vx_cls hW₁ hcl, st⟩
theorem vx_runS (S : CallFix p m c cc nL s args Ts own) (hM : vx_Met l y ws rm Pc Qc XC mc ms free) (cw : CallB R s args own index y bytes maxL ret ws rm mc ms n ∧ (Cond.static y).before args s = true) (hp : PreS s H Pc As)
    (hg : g.method = m) (hn : As.length = n) (hsize : g.locals.size = nL) (hstack : g.stack = As.reverse ++ rest) (hW : 2 * g.monitorRoom + (rest.map fun v => v.category).sum ≤ 8) (hdg : decode cc g.pc = .ok (.invokestatic index, 3)) (hf : cells + mc ≤ R.cells ∧ slots + ms ≤ R.slots) :
    vx_Run p l e R s m args below meth c H locs cells slots mc ms g rest (Qc As.toArray) XC free := by
  have hK : vx_Back l R p e below s args y 3 8 (PreOf R mc ms Pc) (PostOf Qc mc ms free) (vx_Post XC mc ms free) := vx_callBack cw.1 hM hp.1
  obtain ⟨⟨-, -, -, -, -, -, hcode, hini, hy, hlen, hl⟩, hstt⟩ := cw
  obtain ⟨hx, hb, hml, ho, -⟩ := S
  intro T hT X
  rcases vx_callS X hx (bytes := bytes) (maxL := maxL) (ret := ret) ho hl hstt hini hcode hy hK hg (hsize.trans hml.symm) (argsL := As) (rest := rest) (fun sig h => hn.trans (hlen sig h)) hstack hW (by rw [hb]; exact hdg)
    (fun vm₁ hW₁ => ⟨hf.1, hf.2, hp.2 (T.setVm vm₁) hT hW₁⟩) with ⟨v, vm₁, ⟨U', l2, c2, s2⟩, hW₁, X', ⟨g', mk, t, L, e1, e2, hq, h1, hL, h2, h3⟩, st⟩ | ⟨q, vm₁, ⟨U', l2, c2, s2⟩, hW₁, X', ⟨g', mk, t, L, E, ce, e1, e2, hq, hce, hcv, hcl, h1, hL, h2, h3⟩, st⟩
  · dsimp only [Pt.U, Pt.locs, Pt.cells, Pt.slots] at X' e1 e2 h1 h2 h3 st
    subst h1; subst h2; subst h3
    exact Or.inl ⟨v, (T.setVm vm₁).calling g' mk As.toArray, t, U', L, hT, X', hL, e1, e2, hq, st⟩
  · dsimp only [Pt.U, Pt.locs, Pt.cells, Pt.slots] at X' e1 e2 h1 h2 h3 st hcl
    subst h1; subst h2; subst h3
    exact Or.inr ⟨q, (T.setVm vm₁).calling g' mk As.toArray, t, U', L, E, ce, hT, X', hL, e1, e2, hq, hce, hcv, vx_cls hW₁ hcl, st⟩
end Runs
section Rows
variable {p : Program} {l : Launch} {e : Env} {R : Room} {s : State} {m : MethodId} {args : Array Value} {below : List Frame} {meth : Method} {c : Code} {H : Heap} {locs : List Loc} {cells slots : Nat} {Q : State → Prop}
variable {mc ms : Nat} {free : Addr → Prop} {A0 A1 : Nat → Prop} {H0 : Heap} {a : Array Value} {pc : Nat} {ls : Array Slot} {st0 rest : List Value}
theorem vx_keep {st₀ t T' : State} {L : List Loc} (h0 : st₀.heap = H) (e1 : T'.heap = t.heap) (hS : va_S A0 H0 H locs) (hA : ∀ q, q < H.size → A1 q → A0 q) (hf : ∀ q, free q → A0 q) (hL : ∀ q ∈ L, free q.base) (hF : va_F A1 st₀ t) :
    H.size ≤ T'.heap.size ∧ (∀ q : Nat, q < H.size → ¬ A1 q → T'.heap[q]? = H[q]?) ∧ va_S A0 H0 T'.heap (locs ++ L) := by
  obtain ⟨hz, hk⟩ := hF
  rw [h0] at hz hk
  exact ⟨by rw [e1]; exact hz, fun q h1 h2 => by rw [e1]; exact hk q h1 h2,
    ⟨Nat.le_trans hS.1 (by rw [e1]; exact hz), fun q h1 h2 => by rw [e1, hk q (Nat.lt_of_lt_of_le h1 hS.1) (fun z => h2 (hA q (Nat.lt_of_lt_of_le h1 hS.1) z))]; exact hS.2.1 q h1 h2, fun q hq => by
      rcases List.mem_append.mp hq with h | h
      · exact hS.2.2 q h
      · exact hf _ (hL q h)⟩⟩
theorem vx_calli {S SX : Type} {post : Int32 → S → Prop} {px : SX → Prop} {B : S → State → Prop} {BX : String → SX → State → Prop} {AX : Nat → Prop} (hr : vx_Run p l e R s m args below meth c H locs cells slots mc ms (F0 m pc ls st0) rest (va_Qi post B A1 a) (vx_X px BX AX) free) (hS : va_S A0 H0 H locs) (hA : ∀ q, q < H.size → A1 q → A0 q) (hf : ∀ q, free q → A0 q) (hAX : ∀ q, q < H.size → AX q → A0 q)
    (kx : ∀ (E : String) (ce : Cell) (q9 : Addr) (u : SX) (t : State) (H1 : Heap) (locs1 : List Loc), t.heap = H1 → s.vm.Alike t.vm → px u → BX E u t → H.size ≤ H1.size → (∀ q : Nat, q < H.size → ¬ AX q → H1[q]? = H[q]?) → va_S A0 H0 H1 locs1 → H1[q9]? = some ce → ce.vm = .none → s.vm.findClass E = some ce.cls → vx_W p l e R s m args below meth c H1 locs1 (cells + mc) (slots + ms) Q (F0 m pc ls rest) q9)
    (kk : ∀ (r : Int32) (u : S) (t : State) (H1 : Heap) (locs1 : List Loc), t.heap = H1 → s.vm.Alike t.vm → post r u → B u t → H.size ≤ H1.size → (∀ q : Nat, q < H.size → ¬ A1 q → H1[q]? = H[q]?) → va_S A0 H0 H1 locs1 → W p l e R s m args below meth c H1 locs1 (cells + mc) (slots + ms) Q (F0 m (pc + 3) ls (.int r :: rest))) : W p l e R s m args below meth c H locs cells slots Q (F0 m pc ls st0) := by
  intro T hT X
  rcases hr T hT X with ⟨v, st₀, t, T', L, h0, X', hL, e1, e2, ⟨⟨r, u, hv, hp, hb⟩, hF⟩, st⟩ | ⟨q, st₀, t, T', L, E, ce, h0, X', hL, e1, e2, ⟨u, hp, hb, hF⟩, hce, hcv, hcl, st⟩
  · cases hv
    obtain ⟨k1, k2, k3⟩ := vx_keep h0 e1 hS hA hf hL hF
    obtain ⟨t2, a1, b1⟩ := kk r u t T'.heap (locs ++ L) e1.symm (by rw [← e2]; exact X'.warmed.alike) hp hb k1 k2 k3 T' rfl X'
    exact ⟨t2, st t2 a1, b1⟩
  · obtain ⟨k1, k2, k3⟩ := vx_keep h0 e1 hS hAX hf hL hF
    obtain ⟨t2, a1, b1⟩ := kx E ce q u t T'.heap (locs ++ L) e1.symm (by rw [← e2]; exact X'.warmed.alike) hp hb k1 k2 k3 (by rw [e1]; exact hce) hcv hcl T' rfl X'
    exact ⟨t2, st.trans a1, b1⟩
theorem vx_calll {S SX : Type} {post : Int64 → S → Prop} {px : SX → Prop} {B : S → State → Prop} {BX : String → SX → State → Prop} {AX : Nat → Prop} (hr : vx_Run p l e R s m args below meth c H locs cells slots mc ms (F0 m pc ls st0) rest (va_Ql post B A1 a) (vx_X px BX AX) free) (hS : va_S A0 H0 H locs) (hA : ∀ q, q < H.size → A1 q → A0 q) (hf : ∀ q, free q → A0 q) (hAX : ∀ q, q < H.size → AX q → A0 q)
    (kx : ∀ (E : String) (ce : Cell) (q9 : Addr) (u : SX) (t : State) (H1 : Heap) (locs1 : List Loc), t.heap = H1 → s.vm.Alike t.vm → px u → BX E u t → H.size ≤ H1.size → (∀ q : Nat, q < H.size → ¬ AX q → H1[q]? = H[q]?) → va_S A0 H0 H1 locs1 → H1[q9]? = some ce → ce.vm = .none → s.vm.findClass E = some ce.cls → vx_W p l e R s m args below meth c H1 locs1 (cells + mc) (slots + ms) Q (F0 m pc ls rest) q9)
    (kk : ∀ (r : Int64) (u : S) (t : State) (H1 : Heap) (locs1 : List Loc), t.heap = H1 → s.vm.Alike t.vm → post r u → B u t → H.size ≤ H1.size → (∀ q : Nat, q < H.size → ¬ A1 q → H1[q]? = H[q]?) → va_S A0 H0 H1 locs1 → W p l e R s m args below meth c H1 locs1 (cells + mc) (slots + ms) Q (F0 m (pc + 3) ls (.long r :: rest))) : W p l e R s m args below meth c H locs cells slots Q (F0 m pc ls st0) := by
  intro T hT X
  rcases hr T hT X with ⟨v, st₀, t, T', L, h0, X', hL, e1, e2, ⟨⟨r, u, hv, hp, hb⟩, hF⟩, st⟩ | ⟨q, st₀, t, T', L, E, ce, h0, X', hL, e1, e2, ⟨u, hp, hb, hF⟩, hce, hcv, hcl, st⟩
  · cases hv
    obtain ⟨k1, k2, k3⟩ := vx_keep h0 e1 hS hA hf hL hF
    obtain ⟨t2, a1, b1⟩ := kk r u t T'.heap (locs ++ L) e1.symm (by rw [← e2]; exact X'.warmed.alike) hp hb k1 k2 k3 T' rfl X'
    exact ⟨t2, st t2 a1, b1⟩
  · obtain ⟨k1, k2, k3⟩ := vx_keep h0 e1 hS hAX hf hL hF
    obtain ⟨t2, a1, b1⟩ := kx E ce q u t T'.heap (locs ++ L) e1.symm (by rw [← e2]; exact X'.warmed.alike) hp hb k1 k2 k3 (by rw [e1]; exact hce) hcv hcl T' rfl X'
    exact ⟨t2, st.trans a1, b1⟩
theorem vx_callf {S SX : Type} {post : UInt32 → S → Prop} {px : SX → Prop} {B : S → State → Prop} {BX : String → SX → State → Prop} {AX : Nat → Prop} (hr : vx_Run p l e R s m args below meth c H locs cells slots mc ms (F0 m pc ls st0) rest (va_Qf post B A1 a) (vx_X px BX AX) free) (hS : va_S A0 H0 H locs) (hA : ∀ q, q < H.size → A1 q → A0 q) (hf : ∀ q, free q → A0 q) (hAX : ∀ q, q < H.size → AX q → A0 q)
    (kx : ∀ (E : String) (ce : Cell) (q9 : Addr) (u : SX) (t : State) (H1 : Heap) (locs1 : List Loc), t.heap = H1 → s.vm.Alike t.vm → px u → BX E u t → H.size ≤ H1.size → (∀ q : Nat, q < H.size → ¬ AX q → H1[q]? = H[q]?) → va_S A0 H0 H1 locs1 → H1[q9]? = some ce → ce.vm = .none → s.vm.findClass E = some ce.cls → vx_W p l e R s m args below meth c H1 locs1 (cells + mc) (slots + ms) Q (F0 m pc ls rest) q9)
    (kk : ∀ (r : UInt32) (u : S) (t : State) (H1 : Heap) (locs1 : List Loc), t.heap = H1 → s.vm.Alike t.vm → post r u → B u t → H.size ≤ H1.size → (∀ q : Nat, q < H.size → ¬ A1 q → H1[q]? = H[q]?) → va_S A0 H0 H1 locs1 → W p l e R s m args below meth c H1 locs1 (cells + mc) (slots + ms) Q (F0 m (pc + 3) ls (.float r :: rest))) : W p l e R s m args below meth c H locs cells slots Q (F0 m pc ls st0) := by
  intro T hT X
  rcases hr T hT X with ⟨v, st₀, t, T', L, h0, X', hL, e1, e2, ⟨⟨r, u, hv, hp, hb⟩, hF⟩, st⟩ | ⟨q, st₀, t, T', L, E, ce, h0, X', hL, e1, e2, ⟨u, hp, hb, hF⟩, hce, hcv, hcl, st⟩
  · cases hv
    obtain ⟨k1, k2, k3⟩ := vx_keep h0 e1 hS hA hf hL hF
    obtain ⟨t2, a1, b1⟩ := kk r u t T'.heap (locs ++ L) e1.symm (by rw [← e2]; exact X'.warmed.alike) hp hb k1 k2 k3 T' rfl X'
    exact ⟨t2, st t2 a1, b1⟩
  · obtain ⟨k1, k2, k3⟩ := vx_keep h0 e1 hS hAX hf hL hF
    obtain ⟨t2, a1, b1⟩ := kx E ce q u t T'.heap (locs ++ L) e1.symm (by rw [← e2]; exact X'.warmed.alike) hp hb k1 k2 k3 (by rw [e1]; exact hce) hcv hcl T' rfl X'
    exact ⟨t2, st.trans a1, b1⟩
theorem vx_calld {S SX : Type} {post : UInt64 → S → Prop} {px : SX → Prop} {B : S → State → Prop} {BX : String → SX → State → Prop} {AX : Nat → Prop} (hr : vx_Run p l e R s m args below meth c H locs cells slots mc ms (F0 m pc ls st0) rest (va_Qd post B A1 a) (vx_X px BX AX) free) (hS : va_S A0 H0 H locs) (hA : ∀ q, q < H.size → A1 q → A0 q) (hf : ∀ q, free q → A0 q) (hAX : ∀ q, q < H.size → AX q → A0 q)
    (kx : ∀ (E : String) (ce : Cell) (q9 : Addr) (u : SX) (t : State) (H1 : Heap) (locs1 : List Loc), t.heap = H1 → s.vm.Alike t.vm → px u → BX E u t → H.size ≤ H1.size → (∀ q : Nat, q < H.size → ¬ AX q → H1[q]? = H[q]?) → va_S A0 H0 H1 locs1 → H1[q9]? = some ce → ce.vm = .none → s.vm.findClass E = some ce.cls → vx_W p l e R s m args below meth c H1 locs1 (cells + mc) (slots + ms) Q (F0 m pc ls rest) q9)
    (kk : ∀ (r : UInt64) (u : S) (t : State) (H1 : Heap) (locs1 : List Loc), t.heap = H1 → s.vm.Alike t.vm → post r u → B u t → H.size ≤ H1.size → (∀ q : Nat, q < H.size → ¬ A1 q → H1[q]? = H[q]?) → va_S A0 H0 H1 locs1 → W p l e R s m args below meth c H1 locs1 (cells + mc) (slots + ms) Q (F0 m (pc + 3) ls (.double r :: rest))) : W p l e R s m args below meth c H locs cells slots Q (F0 m pc ls st0) := by
  intro T hT X
  rcases hr T hT X with ⟨v, st₀, t, T', L, h0, X', hL, e1, e2, ⟨⟨r, u, hv, hp, hb⟩, hF⟩, st⟩ | ⟨q, st₀, t, T', L, E, ce, h0, X', hL, e1, e2, ⟨u, hp, hb, hF⟩, hce, hcv, hcl, st⟩
  · cases hv
    obtain ⟨k1, k2, k3⟩ := vx_keep h0 e1 hS hA hf hL hF
    obtain ⟨t2, a1, b1⟩ := kk r u t T'.heap (locs ++ L) e1.symm (by rw [← e2]; exact X'.warmed.alike) hp hb k1 k2 k3 T' rfl X'
    exact ⟨t2, st t2 a1, b1⟩
  · obtain ⟨k1, k2, k3⟩ := vx_keep h0 e1 hS hAX hf hL hF
    obtain ⟨t2, a1, b1⟩ := kx E ce q u t T'.heap (locs ++ L) e1.symm (by rw [← e2]; exact X'.warmed.alike) hp hb k1 k2 k3 (by rw [e1]; exact hce) hcv hcl T' rfl X'
    exact ⟨t2, st.trans a1, b1⟩
theorem vx_callv {S SX : Type} {post : S → Prop} {px : SX → Prop} {B : S → State → Prop} {BX : String → SX → State → Prop} {AX : Nat → Prop} (hr : vx_Run p l e R s m args below meth c H locs cells slots mc ms (F0 m pc ls st0) rest (va_Qv post B A1 a) (vx_X px BX AX) free) (hS : va_S A0 H0 H locs) (hA : ∀ q, q < H.size → A1 q → A0 q) (hf : ∀ q, free q → A0 q) (hAX : ∀ q, q < H.size → AX q → A0 q)
    (kx : ∀ (E : String) (ce : Cell) (q9 : Addr) (u : SX) (t : State) (H1 : Heap) (locs1 : List Loc), t.heap = H1 → s.vm.Alike t.vm → px u → BX E u t → H.size ≤ H1.size → (∀ q : Nat, q < H.size → ¬ AX q → H1[q]? = H[q]?) → va_S A0 H0 H1 locs1 → H1[q9]? = some ce → ce.vm = .none → s.vm.findClass E = some ce.cls → vx_W p l e R s m args below meth c H1 locs1 (cells + mc) (slots + ms) Q (F0 m pc ls rest) q9)
    (kk : ∀ (u : S) (t : State) (H1 : Heap) (locs1 : List Loc), t.heap = H1 → s.vm.Alike t.vm → post u → B u t → H.size ≤ H1.size → (∀ q : Nat, q < H.size → ¬ A1 q → H1[q]? = H[q]?) → va_S A0 H0 H1 locs1 → W p l e R s m args below meth c H1 locs1 (cells + mc) (slots + ms) Q (F0 m (pc + 3) ls (rest))) : W p l e R s m args below meth c H locs cells slots Q (F0 m pc ls st0) := by
  intro T hT X
  rcases hr T hT X with ⟨v, st₀, t, T', L, h0, X', hL, e1, e2, ⟨⟨u, hv, hp, hb⟩, hF⟩, st⟩ | ⟨q, st₀, t, T', L, E, ce, h0, X', hL, e1, e2, ⟨u, hp, hb, hF⟩, hce, hcv, hcl, st⟩
  · cases hv
    obtain ⟨k1, k2, k3⟩ := vx_keep h0 e1 hS hA hf hL hF
    obtain ⟨t2, a1, b1⟩ := kk u t T'.heap (locs ++ L) e1.symm (by rw [← e2]; exact X'.warmed.alike) hp hb k1 k2 k3 T' rfl X'
    exact ⟨t2, st t2 a1, b1⟩
  · obtain ⟨k1, k2, k3⟩ := vx_keep h0 e1 hS hAX hf hL hF
    obtain ⟨t2, a1, b1⟩ := kx E ce q u t T'.heap (locs ++ L) e1.symm (by rw [← e2]; exact X'.warmed.alike) hp hb k1 k2 k3 (by rw [e1]; exact hce) hcv hcl T' rfl X'
    exact ⟨t2, st.trans a1, b1⟩
/-- caught by the row x of this method's table; the rows ahead don't take it -/
theorem vx_catch {own name : String} {E : String} {ce : Cell} {q : Addr} (hown : s.vm.findClass own = some m.cls) (pre : List ExceptionTableEntry) (x : ExceptionTableEntry) (suf : List ExceptionTableEntry) (hsplit : c.exceptionTable.toList = pre ++ x :: suf)
    (hpass : ∀ z ∈ pre, covers z pc = false ∨ (z.catchType ≠ 0 ∧ ∃ nm : String, (Cond.classLink own z.catchType nm).before args s = true ∧ va_Nc E nm s)) (hx : covers x pc = true) (h0 : x.catchType ≠ 0)
    (hlink : (Cond.classLink own x.catchType name).before args s = true) (hcast : (Cond.castable E name).before args s = true) (hcell : H[q]? = some ce) (hv : ce.vm = .none) (hcl : s.vm.findClass E = some ce.cls)
    (kk : W p l e R s m args below meth c H locs cells slots Q (F0 m x.handlerPc ls [.ref q])) : vx_W p l e R s m args below meth c H locs cells slots Q (F0 m pc ls rest) q := by
  intro T hT X
  have hpl : e.platform.magicAccessors = ({} : Platform).magicAccessors := by rw [X.admits.platform]
  obtain ⟨c3, c4, hc3, hc4, hasg⟩ := Cond.castable_spec hcast
  cases Option.some.inj (hc3.symm.trans hcl)
  obtain ⟨c5, hc5, hcl5⟩ := Cond.classLink_spec hown hlink e.platform hpl
  cases Option.some.inj (hc4.symm.trans hc5)
  obtain ⟨vm', X', st⟩ := X.thenCaughtThrough q (g := F0 m pc ls rest) rfl (Steps.refl _) (by rw [hT]; exact hcell) (by rw [hv]; rfl) (by obtain ⟨k9, h9, -⟩ := Vm.findClass_spec hcl; exact ⟨k9, h9⟩) pre x suf hsplit
    (fun z hz => by
      rcases hpass z hz with h | ⟨hz0, nm, hl1, hn1⟩
      · exact Or.inl h
      · obtain ⟨c6, hc6, hcl6⟩ := Cond.classLink_spec hown hl1 e.platform hpl
        obtain ⟨a8, b8, h1, h2, h3⟩ := hn1
        cases Option.some.inj (h1.symm.trans hcl)
        cases Option.some.inj (h2.symm.trans hc6)
        exact Or.inr ⟨hz0, _, hcl6, h3⟩) hx (Or.inr ⟨h0, c4, hcl5, hasg⟩)
  obtain ⟨t, a1, b1⟩ := kk (T.setVm vm') hT X'
  exact ⟨t, st.trans a1, b1⟩
end Rows
section Ends
variable {p : Program} {l : Launch} {e : Env} {R : Room} {s : State} {m : MethodId} {args : Array Value} {below : List Frame} {meth : Method} {c : Code} {H : Heap} {locs : List Loc} {cells slots : Nat} {Q : State → Prop}
variable {mc ms : Nat} {free : Addr → Prop} {A0 A1 : Nat → Prop} {H0 : Heap} {a : Array Value} {ls : Array Slot} {st0 rest : List Value}
variable {Qc : Array Value → State → Outcome → State → Prop} {XC : String → State → State → Prop}
/-- what a body that may throw owes at its end -/
def vx_MQ (below : List Frame) (Qc : Array Value → State → Outcome → State → Prop) (XC : String → State → State → Prop) (a : Array Value) (s : State) (mc ms : Nat) (free : Addr → Prop) : State → Prop := fun t =>
  ∃ o, t.status = .running ∧ Ended t below o ∧ vx_Q Qc XC mc ms free a s o t
theorem vx_ret {g : JFrame} {mc ms : Nat} (k : W p l e R s m args below meth c H locs cells slots (MQ below Qc args s mc ms free) g) : W p l e R s m args below meth c H locs cells slots (vx_MQ below Qc XC args s mc ms free) g := by
  intro T hT X
  obtain ⟨t, a1, o, b1, b2, b3, b4⟩ := k T hT X
  exact ⟨t, a1, o, b1, b2, Or.inl ⟨b3, b4⟩⟩
/-- not caught here: it goes on to the caller -/
theorem vx_widen {g : JFrame} {q : Addr} {k n : Nat} (h1 : cells ≤ k) (h2 : slots ≤ n) (kk : vx_W p l e R s m args below meth c H locs k n Q g q) : vx_W p l e R s m args below meth c H locs cells slots Q g q := fun T hT X => kk T hT (stand_widen X h1 h2)
theorem vx_out {pc : Nat} {E : String} {ce : Cell} {q : Addr} {mc ms : Nat} (hout : ∀ x ∈ c.exceptionTable.toList, covers x pc = false) (hlocks : meth.locks = false) (hcell : H[q]? = some ce) (hv : ce.vm = .none) (hcl : s.vm.findClass E = some ce.cls)
    (hx : ∀ t : State, t.heap = H → s.vm.Alike t.vm → XC E s t) (hf : ∀ z ∈ locs, free z.base) (hc : cells ≤ mc) (hs : slots ≤ ms) :
    vx_W p l e R s m args below meth c H locs cells slots (vx_MQ below Qc XC args s mc ms free) (F0 m pc ls rest) q := by
  intro T hT X
  obtain ⟨st1, hrun, hend, hW, hsm⟩ := X.leaveThrown q (g := F0 m pc ls rest) rfl rfl rfl hout hlocks
  have hcell9 : (T.setFrames (.throwing q :: below)).heap[q]? = some ce := by
    show T.heap[q]? = some ce
    rw [hT]; exact hcell
  exact ⟨_, st1, .threw q, hrun, hend, Or.inr ⟨q, rfl, E, ce, locs, hx _ hT hW.alike, hcell9, hv, hcl, hW, hsm.mono hc hs, hf⟩⟩
theorem vx_frame {U : State} {k n : Nat} (h : s.sameButNew ({ U with vm := s.vm } : State) locs k n) : s.heap.size ≤ U.heap.size ∧ ∀ q : Nat, q < s.heap.size → (∀ z ∈ locs, z.base ≠ q) → U.heap[q]? = s.heap[q]? := by
  obtain ⟨-, h2, -, -, -, h6⟩ := h
  refine ⟨h2, fun q hq hz => ?_⟩
  obtain ⟨c9, e1, e2, e3, e4⟩ := h6 q _ (Array.getElem?_eq_getElem hq)
  have hs : c9.slots = (s.heap[q]).slots := Array.ext_getElem? fun i => e4 i fun hm => hz _ hm rfl
  have h9 : c9 = s.heap[q] := by
    rw [hs] at e2
    exact e2
  have e5 : U.heap[q]? = some c9 := e1
  rw [e5, h9, Array.getElem?_eq_getElem hq]
/-- the words of a throw but the four that speak of the heap -/
def vx_no (w : Cond) : Bool := decide (w ≠ .isRef (.static Bundle.tN "UNASSIGNED_STACK" Bundle.steD)) && decide (w ≠ .isRef (.static Bundle.tN "SUPPRESSED_SENTINEL" Bundle.listD)) && decide (w ≠ .laysStatic Bundle.tN "UNASSIGNED_STACK" Bundle.steD) && decide (w ≠ .laysStatic Bundle.tN "SUPPRESSED_SENTINEL" Bundle.listD)
def vx_at0 (own : String) (ic : Nat) (X : String) (names : List String) : List Cond := (Bundle.ownAtoms0 own ic X names).filter vx_no
def vx_atS (own : String) (ic : Nat) (X : String) (names : List String) : List Cond := (Bundle.ownAtoms own ic X names).filter vx_no
/-- a word that the tables alone decide, or a good one -/
def vx_ot (w : Cond) : Bool := w.onTables || goodWord w
theorem vx_ot_at {args a' : Array Value} {s U : State} {w : Cond} (hW : s.WarmedH U.vm) (hvm : s.vm = U.vm) (hg : vx_ot w = true) (h : w.before args s = true) : w.before a' U = true := by
  simp only [vx_ot, Bool.or_eq_true] at hg
  rcases hg with hg | hg
  · exact va_tabs hg hvm h
  · exact word_at hW (good_of_word hg) h
/-- a list's words: the good ones out of the method's own list, the others by premises of their own -/
theorem vx_hat {args : Array Value} {s : State} {L B : List Cond} (h1 : ∀ w ∈ L.filter goodWord, w.before args s = true) (h2 : ∀ w ∈ L.filter (fun w => !goodWord w), w ∈ B) (h3 : ∀ w ∈ B, w.before args s = true) : ∀ w ∈ L, w.before args s = true := by
  intro w hw
  by_cases g : goodWord w = true
  · exact h1 w (List.mem_filter.mpr ⟨hw, g⟩)
  · refine h3 w (h2 w (List.mem_filter.mpr ⟨hw, ?_⟩))
    show (!goodWord w) = true
    cases hgw : goodWord w
    · rfl
    · exact absurd hgw g
theorem vx_c {args : Array Value} {s : State} {w : Cond} {B : List Cond} (h : w.before args s = true) (t : ∀ w ∈ B, w.before args s = true) : ∀ w' ∈ w :: B, w'.before args s = true := fun w' h' => (List.mem_cons.mp h').elim (fun e => by rw [e]; exact h) (t w')
theorem vx_n {args : Array Value} {s : State} : ∀ w ∈ ([] : List Cond), w.before args s = true := fun _ h => nomatch h
theorem vx_own {args : Array Value} {s : State} {L : List Cond} (h1 : ∀ w ∈ L.filter vx_no, w.before args s = true)
    (hU : (Cond.isRef (.static Bundle.tN "UNASSIGNED_STACK" Bundle.steD)).before args s = true) (hN : (Cond.isRef (.static Bundle.tN "SUPPRESSED_SENTINEL" Bundle.listD)).before args s = true)
    (lU : (Cond.laysStatic Bundle.tN "UNASSIGNED_STACK" Bundle.steD).before args s = true) (lN : (Cond.laysStatic Bundle.tN "SUPPRESSED_SENTINEL" Bundle.listD).before args s = true) : ∀ w ∈ L, w.before args s = true := by
  intro w hw
  by_cases e1 : w = .isRef (.static Bundle.tN "UNASSIGNED_STACK" Bundle.steD)
  · rw [e1]; exact hU
  · by_cases e2 : w = .isRef (.static Bundle.tN "SUPPRESSED_SENTINEL" Bundle.listD)
    · rw [e2]; exact hN
    · by_cases e3 : w = .laysStatic Bundle.tN "UNASSIGNED_STACK" Bundle.steD
      · rw [e3]; exact lU
      · by_cases e4 : w = .laysStatic Bundle.tN "SUPPRESSED_SENTINEL" Bundle.listD
        · rw [e4]; exact lN
        · exact h1 w (List.mem_filter.mpr ⟨hw, by unfold vx_no; rw [decide_eq_true e1, decide_eq_true e2, decide_eq_true e3, decide_eq_true e4]; rfl⟩)
/-- where a static field lies, its class's statics cell in H -/
def vx_L (C n d : String) (A : Nat → Prop) (U : State) (H : Heap) : Prop := ∃ (c : ClassId) (k : Class) (i : Nat) (f : Field) (a : Nat) (cell : Cell), U.vm.findClass C = some c ∧ U.fieldFound? C n d = some (c, k, i, f) ∧ f.isStatic = true ∧ k.statics = some a ∧ H[a]? = some cell ∧ cell.vm.isStatics = true ∧ cell.cls = c ∧ f.slot < cell.slots.size ∧ k.staticTypes[f.slot]? = some f.type ∧ ¬ A a
theorem vx_L.moved {C n d : String} {A : Nat → Prop} {u U : State} {H : Heap} (hvm : u.vm.Alike U.vm) (h : vx_L C n d A u H) : vx_L C n d A U H := by
  obtain ⟨c, k, i, f, a, cell, h1, h2, h3, h4, h5, h6, h7, h8, h9, h10⟩ := h
  obtain ⟨k', hi', he⟩ := State.fieldFound?_setVm hvm h2
  exact ⟨c, k', i, f, a, cell, by rw [hvm.findClass]; exact h1, hi', h3, by rw [he]; exact h4, h5, h6, h7, h8, by rw [he]; exact h9, h10⟩
theorem vx_L.kept {C n d : String} {A : Nat → Prop} {U : State} {H H1 : Heap} (h : vx_L C n d A U H) (hq : ∀ a : Nat, a < H.size → ¬ A a → H1[a]? = H[a]?) : vx_L C n d A U H1 := by
  obtain ⟨c, k, i, f, a, cell, h1, h2, h3, h4, h5, h6, h7, h8, h9, h10⟩ := h
  exact ⟨c, k, i, f, a, cell, h1, h2, h3, h4, by rw [hq a (Array.getElem?_eq_some_iff.mp h5).1 h10]; exact h5, h6, h7, h8, h9, h10⟩
theorem vx_L.narrow {C n d : String} {A B : Nat → Prop} {U : State} {H : Heap} (h : vx_L C n d A U H) (hAB : ∀ q, B q → A q) : vx_L C n d B U H := by
  obtain ⟨c, k, i, f, a, cell, h1, h2, h3, h4, h5, h6, h7, h8, h9, h10⟩ := h
  exact ⟨c, k, i, f, a, cell, h1, h2, h3, h4, h5, h6, h7, h8, h9, fun z => h10 (hAB _ z)⟩
theorem vx_L.word {C n d : String} {A : Nat → Prop} {s : State} {args : Array Value} (h : vx_L C n d A s s.heap) : (Cond.laysStatic C n d).before args s = true := by
  obtain ⟨c, k, i, f, a, cell, h1, h2, h3, h4, h5, h6, h7, h8, h9, -⟩ := h
  show (Cond.laysStatic C n d).holds args s none s [] = true
  exact Cond.laysStatic_of h1 h2 h3 h4 h5 h6 h7 h8 h9
/-- .. and what it holds: null or some reference -/
def vx_Zq (C n d : String) (A : Nat → Prop) (U : State) (H : Heap) : Prop := va_Zq C n d A U H ∧ vx_L C n d A U H
theorem vx_Zq.moved {C n d : String} {A : Nat → Prop} {u U : State} {H : Heap} (hvm : u.vm.Alike U.vm) (h : vx_Zq C n d A u H) : vx_Zq C n d A U H := ⟨va_Zq.moved hvm h.1, vx_L.moved hvm h.2⟩
theorem vx_Zq.kept {C n d : String} {A : Nat → Prop} {U : State} {H H1 : Heap} (h : vx_Zq C n d A U H) (hq : ∀ a : Nat, a < H.size → ¬ A a → H1[a]? = H[a]?) : vx_Zq C n d A U H1 := ⟨va_Zq.kept h.1 hq, vx_L.kept h.2 hq⟩
theorem vx_Zq.narrow {C n d : String} {A B : Nat → Prop} {U : State} {H : Heap} (h : vx_Zq C n d A U H) (hAB : ∀ q, B q → A q) : vx_Zq C n d B U H := ⟨va_Zq.narrow h.1 hAB, vx_L.narrow h.2 hAB⟩
theorem vx_Zqof {args : Array Value} {s : State} {C n d : String} {A : Nat → Prop} (hl : (Cond.laysStatic C n d).before args s = true) (hini : (Cond.initialized C).before args s = true) (h : (Cond.isRef (.static C n d)).before args s = true) (hA : ∀ a : Nat, a < s.heap.size → ¬ A a) : vx_Zq C n d A s s.heap := by
  refine ⟨va_Zqof hl hini h hA, ?_⟩
  obtain ⟨c, k, i, f, a, cell, h1, h2, h3, h4, h5, h6, h7, h8, h9⟩ := Cond.laysStatic_spec hl
  exact ⟨c, k, i, f, a, cell, h1, h2, h3, h4, h5, h6, h7, h8, h9, hA a (Array.getElem?_eq_some_iff.mp h5).1⟩
theorem vx_isRef {C n d : String} {v : Value} {A : Nat → Prop} {s : State} {args : Array Value} (h : va_Z C n d v A s s.heap) (hv : v.isRef = true) : (Cond.isRef (.static C n d)).before args s = true := by
  obtain ⟨cf, kf, fi, f, a, cell, h1, h2, h3, h4, h5, h6, h7, -⟩ := h
  have he : (Term.static C n d).eval args s none [] s = some v := by
    simp [Term.eval, State.fieldNamed?, h1, h2, h4, h5, h6, h7]
  simp only [Cond.before, Cond.holds, Cond.value, he]
  cases v <;> simp_all [Value.isRef]
theorem vx_isRefq {C n d : String} {A : Nat → Prop} {s : State} {args : Array Value} (h : va_Zq C n d A s s.heap) : (Cond.isRef (.static C n d)).before args s = true := by
  rcases h with h | ⟨t, h⟩
  · exact vx_isRef h rfl
  · exact vx_isRef h rfl
/-- the same frame, seen from here: as if the method were called anew in this heap -/
theorem vx_rebase {T : State} (X : Stand p l e R s m args below meth c T locs cells slots) {R' : Room} (hf : R'.frames ≤ R.frames) (hl : R'.locals ≤ R.locals) (hc : cells + R'.cells ≤ R.cells) (hs : slots + R'.slots ≤ R.slots) :
    Stand p l e R' ((T.setVm s.vm).setFrames (.invoking m args :: below)) m args below meth c T [] 0 0 := by
  have htop : (T.setVm s.vm).topJava?.isSome := X.here.top
  have hF : ((T.setVm s.vm).setFrames (.invoking m args :: below)).frames = .invoking m args :: below := State.frames_setFrames _ (State.cur_lt_of_top htop)
  obtain ⟨g₀, hg0⟩ := Option.isSome_iff_exists.mp htop
  obtain ⟨r, hr⟩ := State.topJava?_eq_some.mp hg0
  have hl9 : e.platform.stackLimits (T.setVm s.vm).me = e.platform.stackLimits s.me := X.limits
  have hb9 : (T.setVm s.vm).me.stackBytes = s.me.stackBytes := X.bytes
  refine ⟨X.admits, X.cas, X.clock, hF, ?_, X.hears, X.method, X.code, X.here, X.tail, X.warmed, ?_, ?_, ?_⟩
  · have h := X.room
    have hU : ((T.setVm s.vm).setFrames (.invoking m args :: below)).localsInUse = s.localsInUse := by
      rw [State.localsInUse_invoking hF (meth := meth) (c := c) X.method X.code, State.localsInUse_invoking X.frames X.method X.code]
    simp only [State.hasRoom, Bool.and_eq_true, decide_eq_true_eq] at h ⊢
    obtain ⟨⟨⟨⟨h1, h2, h3, h4, h5, h6⟩, h7⟩, h8⟩, h9⟩ := h
    rw [X.frames, List.length_cons] at h2 h3
    have q1 := X.heapSize
    have q2 := X.used
    simp only [hF, hU, List.length_cons, State.stackLimits_setFrames, State.stackBytes_setFrames, hl9, hb9]
    refine ⟨⟨⟨⟨by omega, by omega, by omega, by omega, by omega, h6⟩, ?_⟩, ?_⟩, X.book⟩
    · show T.heap.size + R'.cells ≤ e.platform.maxCells
      omega
    · show T.slotsUsed + R'.slots ≤ e.platform.maxSlots
      omega
  · rw [State.stackLimits_setFrames]; rfl
  · rw [State.stackBytes_setFrames]; rfl
  · refine ⟨?_, Nat.le_refl _, Nat.le_refl _, ?_, ?_, fun a c9 h9 => ⟨c9, h9, rfl, rfl, fun _ _ => rfl⟩⟩
    · obtain ⟨t, ht, -⟩ := State.frames_cons hr
      show T.setVm s.vm = { ((T.setVm s.vm).setFrames (.invoking m args :: below)).setFrames (T.setVm s.vm).frames with heap := T.heap, slotsUsed := T.slotsUsed }
      rw [State.setFrames_setFrames, State.setFrames_self ht]
      rfl
    · show T.slotsUsed = T.slotsUsed + ((T.heap.toList.drop T.heap.size).map (·.slots.size)).sum
      rw [List.drop_eq_nil_of_le (Nat.le_of_eq Array.length_toList)]
      rfl
    · show ((T.heap.toList.drop T.heap.size).map (·.slots.size)).sum ≤ 0
      rw [List.drop_eq_nil_of_le (Nat.le_of_eq Array.length_toList)]
      exact Nat.le_refl _
/-- 'throw new E()': new; dup; invokespecial; athrow -/
theorem vx_throw0 {cc : ByteArray} {pc : Nat} (hexec : p.tables.exec = Jvm.exec) (hb : c.code = cc) (hl : l.stackTraces = false) {own cls : String} {names : List String} {ik ic mc ms : Nat} {A : Nat → Prop}
    (hown : s.vm.findClass own = some m.cls) (hcls : Bundle.fit cls = true) (hnames : ∀ n ∈ names, Bundle.fit n = true)
    (hk : (Cond.classLink own ik cls).before args s = true) (hini : (Cond.initialized cls).before args s = true) (hat : ∀ w ∈ vx_at0 own ic cls names, w.before args s = true)
    (hgood : ∀ w ∈ Cond.classLink own ik cls :: Cond.initialized cls :: vx_at0 own ic cls names, vx_ot w = true)
    (hU : vx_Zq Bundle.tN "UNASSIGNED_STACK" Bundle.steD A s s.heap) (hN : vx_Zq Bundle.tN "SUPPRESSED_SENTINEL" Bundle.listD A s s.heap) (hS : va_S A s.heap H locs) (hsize : ls.size = c.maxLocals)
    (d0 : decode cc pc = .ok (.new ik, 3)) (d3 : decode cc (pc + 3) = .ok (.dup, 1)) (d4 : decode cc (pc + 4) = .ok (.invokespecial ic, 3)) (d7 : decode cc (pc + 7) = .ok (.athrow, 1))
    (hout : ∀ x ∈ c.exceptionTable.toList, covers x (pc + 7) = false)
    (hRframes : names.length + 3 < R.frames) (hRlocals : (rest.map fun v => v.category).sum + (13 * (names.length + 1) + 42) ≤ R.locals) (hRcells : cells + 1 ≤ R.cells) (hRslots : slots + 6 ≤ R.slots) (hlocks : meth.locks = false)
    (hx : ∀ t : State, s.vm.Alike t.vm → H.size ≤ t.heap.size → (∀ q : Nat, q < H.size → t.heap[q]? = H[q]?) → XC cls s t)
    (hf : ∀ z ∈ locs, free z.base) (hc : cells + 1 ≤ mc) (hs : slots + 6 ≤ ms) :
    W p l e R s m args below meth c H locs cells slots (vx_MQ below Qc XC args s mc ms free) (F0 m pc ls rest) := by
  intro T hT X
  have htr : e.platform.stackTraces = false := (show e.platform.stackTraces = l.stackTraces by rw [X.admits.platform]).trans hl
  have Y := vx_rebase X (R' := { frames := R.frames, locals := R.locals, cells := 1, slots := 6 }) (Nat.le_refl _) (Nat.le_refl _) hRcells hRslots
  obtain ⟨s', hA⟩ : ∃ z, z = (T.setVm s.vm).setFrames (.invoking m args :: below) := ⟨_, rfl⟩
  rw [← hA] at Y
  have hvm : s'.vm = s.vm := by rw [hA]; rfl
  have hhp : s'.heap = H := by rw [hA]; exact hT
  have hW0 : s.WarmedH s'.vm := by rw [hvm]; exact State.WarmedH.refl s
  have hat' : ∀ w ∈ vx_at0 own ic cls names, w.before args s' = true := fun w hw => vx_ot_at hW0 hvm.symm (hgood w (List.mem_cons_of_mem _ (List.mem_cons_of_mem _ hw))) (hat w hw)
  have hk' : (Cond.classLink own ik cls).before args s' = true := vx_ot_at hW0 hvm.symm (hgood _ List.mem_cons_self) hk
  have hini' : (Cond.initialized cls).before args s' = true := vx_ot_at hW0 hvm.symm (hgood _ (List.mem_cons_of_mem _ List.mem_cons_self)) hini
  have hU' : vx_Zq Bundle.tN "UNASSIGNED_STACK" Bundle.steD A s' s'.heap := by rw [hhp]; exact vx_Zq.moved hW0.alike (hU.kept hS.2.1)
  have hN' : vx_Zq Bundle.tN "SUPPRESSED_SENTINEL" Bundle.listD A s' s'.heap := by rw [hhp]; exact vx_Zq.moved hW0.alike (hN.kept hS.2.1)
  have h : ∀ w ∈ Bundle.ownAtoms0 own ic cls names, w.before args s' = true := vx_own hat' (vx_isRefq hU'.1) (vx_isRefq hN'.1) hU'.2.word hN'.2.word
  have hown' : s'.vm.findClass own = some m.cls := by rw [hvm]; exact hown
  have hins : (Cond.instantiable cls 6).before args s' = true := h _ (by simp [Bundle.ownAtoms0])
  obtain ⟨vm₁, cX, kX, hfX, hkX, -, -, X₁, st1⟩ := Y.newCold hexec (own := own) (C := cls) (index := ik) (n := 6) hown' hk' hins hini'
    (g := F0 m pc ls rest) rfl (by rw [hb]; exact d0) (Nat.le_refl _) (Nat.le_refl _)
  generalize hT1 : (T.setVm vm₁).pushCell { cls := cX, slots := kX.instanceTypes.map defaultValue, vm := .none } = T1 at X₁ st1
  have hcat : (Value.ref T.heap.size).category = 1 := rfl
  have hcellA : T1.heap[T.heap.size]? = some (freshCell cX kX) := by rw [← hT1]; exact State.heap_pushCell_size _ _
  have d3' : decode c.code (pc + 3) = .ok (.dup, 1) := by rw [hb]; exact d3
  obtain ⟨U, hsteps, hrun, hend, hW, hsame, ce, hce, hO⟩ := X₁.ctorThrow0 hexec htr (own := own) (cls := cls) (names := names) (ic := ic) hown' hcls hnames h (fun x hx => nomatch hx) hfX hkX hcellA (by rw [hhp, hT]; exact Nat.le_refl _)
    (g := { method := m, pc := pc + 4, locals := ls, stack := .ref T.heap.size :: .ref T.heap.size :: rest, locked := none }) rfl hsize rfl rfl (rest := rest) rfl
    (by rw [hb]; exact d4) (by rw [hb]; exact d7) hout hRframes (by simp only [List.map_cons, List.sum_cons, hcat]; omega) hlocks
  obtain ⟨f1, f2⟩ := vx_frame hsame
  rw [hhp] at f1 f2
  have hWs : s.WarmedH U.vm := State.WarmedH.trans hW0 hW
  have hcl : s.vm.findClass cls = some ce.cls := by
    have h9 := hO.cls
    rw [hvm] at h9
    exact h9
  have hall : s.sameButNew ({ U with vm := s.vm } : State) locs mc ms := by
    subst hA
    obtain ⟨e1, e2⟩ := hsame
    rw [State.setFrames_setFrames] at e1
    have h2 : (T.setVm s.vm).sameButNew ({ U with vm := s.vm } : State) [] (0 + 1) (0 + 6) := ⟨e1, e2⟩
    have h3 := X.same.trans h2
    rw [List.append_nil] at h3
    exact h3.mono hc hs
  refine ⟨U, ?_, .threw T.heap.size, hrun, hend, Or.inr ⟨T.heap.size, rfl, cls, ce, locs, hx U hWs.alike f1 (fun q hq => f2 q hq (fun z hz => nomatch hz)), hce, hO.vm, hcl, hWs, hall, hf⟩⟩
  refine st1 _ ?_
  show Steps p.tables e below (T1.setTop { method := m, pc := pc + 3, locals := ls, stack := .ref T.heap.size :: rest, locked := none }) _
  jvm_step X₁.here [X₁.here.top, hexec, d3', Value.category]
  exact hsteps
/-- 'throw new E("text")': new; dup; ldc; invokespecial; athrow -/
theorem vx_throwS {cc : ByteArray} {pc : Nat} (hexec : p.tables.exec = Jvm.exec) (hb : c.code = cc) (hl : l.stackTraces = false) {own cls text : String} {names : List String} {ik is ic mc ms sa : Nat} {A : Nat → Prop}
    (hown : s.vm.findClass own = some m.cls) (hcls : Bundle.fit cls = true) (hnames : ∀ n ∈ names, Bundle.fit n = true)
    (hk : (Cond.classLink own ik cls).before args s = true) (hini : (Cond.initialized cls).before args s = true) (hstr : vk_R own is text sa s) (hat : ∀ w ∈ vx_atS own ic cls names, w.before args s = true)
    (hgood : ∀ w ∈ Cond.classLink own ik cls :: Cond.initialized cls :: vx_atS own ic cls names, vx_ot w = true)
    (hU : vx_Zq Bundle.tN "UNASSIGNED_STACK" Bundle.steD A s s.heap) (hN : vx_Zq Bundle.tN "SUPPRESSED_SENTINEL" Bundle.listD A s s.heap) (hS : va_S A s.heap H locs) (hsize : ls.size = c.maxLocals)
    (d0 : decode cc pc = .ok (.new ik, 3)) (d3 : decode cc (pc + 3) = .ok (.dup, 1)) (d4 : decode cc (pc + 4) = .ok (.ldc is, 2)) (d6 : decode cc (pc + 6) = .ok (.invokespecial ic, 3)) (d9 : decode cc (pc + 9) = .ok (.athrow, 1))
    (hout : ∀ x ∈ c.exceptionTable.toList, covers x (pc + 9) = false)
    (hRframes : names.length + 3 < R.frames) (hRlocals : (rest.map fun v => v.category).sum + (13 * (names.length + 1) + 43) ≤ R.locals) (hRcells : cells + 1 ≤ R.cells) (hRslots : slots + 6 ≤ R.slots) (hlocks : meth.locks = false)
    (hx : ∀ t : State, s.vm.Alike t.vm → H.size ≤ t.heap.size → (∀ q : Nat, q < H.size → t.heap[q]? = H[q]?) → XC cls s t)
    (hf : ∀ z ∈ locs, free z.base) (hc : cells + 1 ≤ mc) (hs : slots + 6 ≤ ms) :
    W p l e R s m args below meth c H locs cells slots (vx_MQ below Qc XC args s mc ms free) (F0 m pc ls rest) := by
  intro T hT X
  have htr : e.platform.stackTraces = false := (show e.platform.stackTraces = l.stackTraces by rw [X.admits.platform]).trans hl
  have Y := vx_rebase X (R' := { frames := R.frames, locals := R.locals, cells := 1, slots := 6 }) (Nat.le_refl _) (Nat.le_refl _) hRcells hRslots
  obtain ⟨s', hA⟩ : ∃ z, z = (T.setVm s.vm).setFrames (.invoking m args :: below) := ⟨_, rfl⟩
  rw [← hA] at Y
  have hvm : s'.vm = s.vm := by rw [hA]; rfl
  have hhp : s'.heap = H := by rw [hA]; exact hT
  have hW0 : s.WarmedH s'.vm := by rw [hvm]; exact State.WarmedH.refl s
  have hat' : ∀ w ∈ vx_atS own ic cls names, w.before args s' = true := fun w hw => vx_ot_at hW0 hvm.symm (hgood w (List.mem_cons_of_mem _ (List.mem_cons_of_mem _ hw))) (hat w hw)
  have hk' : (Cond.classLink own ik cls).before args s' = true := vx_ot_at hW0 hvm.symm (hgood _ List.mem_cons_self) hk
  have hini' : (Cond.initialized cls).before args s' = true := vx_ot_at hW0 hvm.symm (hgood _ (List.mem_cons_of_mem _ List.mem_cons_self)) hini
  have hU' : vx_Zq Bundle.tN "UNASSIGNED_STACK" Bundle.steD A s' s'.heap := by rw [hhp]; exact vx_Zq.moved hW0.alike (hU.kept hS.2.1)
  have hN' : vx_Zq Bundle.tN "SUPPRESSED_SENTINEL" Bundle.listD A s' s'.heap := by rw [hhp]; exact vx_Zq.moved hW0.alike (hN.kept hS.2.1)
  have h : ∀ w ∈ Bundle.ownAtoms own ic cls names, w.before args s' = true := vx_own hat' (vx_isRefq hU'.1) (vx_isRefq hN'.1) hU'.2.word hN'.2.word
  have hown' : s'.vm.findClass own = some m.cls := by rw [hvm]; exact hown
  have hins : (Cond.instantiable cls 6).before args s' = true := h _ (by simp [Bundle.ownAtoms])
  obtain ⟨vm₁, cX, kX, hfX, hkX, -, -, X₁, st1⟩ := Y.newCold hexec (own := own) (C := cls) (index := ik) (n := 6) hown' hk' hins hini'
    (g := F0 m pc ls rest) rfl (by rw [hb]; exact d0) (Nat.le_refl _) (Nat.le_refl _)
  generalize hT1 : (T.setVm vm₁).pushCell { cls := cX, slots := kX.instanceTypes.map defaultValue, vm := .none } = T1 at X₁ st1
  have hcat : (Value.ref T.heap.size).category = 1 := rfl
  have hcellA : T1.heap[T.heap.size]? = some (freshCell cX kX) := by rw [← hT1]; exact State.heap_pushCell_size _ _
  have d3' : decode c.code (pc + 3) = .ok (.dup, 1) := by rw [hb]; exact d3
  have d4' : decode c.code (pc + 4) = .ok (.ldc is, 2) := by rw [hb]; exact d4
  have hstr' : vk_R own is text sa s' := vk_R.warm hW0 hstr
  obtain ⟨U, hsteps, hrun, hend, hW, hsame, ce, hce, hO⟩ := X₁.ctorThrowS hexec htr (own := own) (cls := cls) (names := names) (ic := ic) hown' hcls hnames h (fun x hx => nomatch hx) hfX hkX hcellA (by rw [hhp, hT]; exact Nat.le_refl _) (msg := .ref sa) rfl
    (g := { method := m, pc := pc + 6, locals := ls, stack := .ref sa :: .ref T.heap.size :: .ref T.heap.size :: rest, locked := none }) rfl hsize rfl rfl (rest := rest) rfl
    (by rw [hb]; exact d6) (by rw [hb]; exact d9) hout hRframes (by simp only [List.map_cons, List.sum_cons, hcat]; omega) hlocks
  obtain ⟨f1, f2⟩ := vx_frame hsame
  rw [hhp] at f1 f2
  have hWs : s.WarmedH U.vm := State.WarmedH.trans hW0 hW
  have hcl : s.vm.findClass cls = some ce.cls := by
    have h9 := hO.cls
    rw [hvm] at h9
    exact h9
  have hall : s.sameButNew ({ U with vm := s.vm } : State) locs mc ms := by
    subst hA
    obtain ⟨e1, e2⟩ := hsame
    rw [State.setFrames_setFrames] at e1
    have h2 : (T.setVm s.vm).sameButNew ({ U with vm := s.vm } : State) [] (0 + 1) (0 + 6) := ⟨e1, e2⟩
    have h3 := X.same.trans h2
    rw [List.append_nil] at h3
    exact h3.mono hc hs
  refine ⟨U, ?_, .threw T.heap.size, hrun, hend, Or.inr ⟨T.heap.size, rfl, cls, ce, locs, hx U hWs.alike f1 (fun q hq => f2 q hq (fun z hz => nomatch hz)), hce, hO.vm, hcl, hWs, hall, hf⟩⟩
  refine st1 _ ?_
  show Steps p.tables e below (T1.setTop { method := m, pc := pc + 3, locals := ls, stack := .ref T.heap.size :: rest, locked := none }) _
  jvm_step X₁.here [X₁.here.top, hexec, d3', Value.category]
  exact X₁.ldcString hexec (own := own) (text := text) (index := is) (a := sa) hown' hstr'.1 hstr'.2
    (g := { method := m, pc := pc + 4, locals := ls, stack := .ref T.heap.size :: .ref T.heap.size :: rest, locked := none }) rfl d4' _ hsteps
/-- 'throw new E("text")', the text by a wide index -/
theorem vx_throwSW {cc : ByteArray} {pc : Nat} (hexec : p.tables.exec = Jvm.exec) (hb : c.code = cc) (hl : l.stackTraces = false) {own cls text : String} {names : List String} {ik is ic mc ms sa : Nat} {A : Nat → Prop}
    (hown : s.vm.findClass own = some m.cls) (hcls : Bundle.fit cls = true) (hnames : ∀ n ∈ names, Bundle.fit n = true)
    (hk : (Cond.classLink own ik cls).before args s = true) (hini : (Cond.initialized cls).before args s = true) (hstr : vk_R own is text sa s) (hat : ∀ w ∈ vx_atS own ic cls names, w.before args s = true)
    (hgood : ∀ w ∈ Cond.classLink own ik cls :: Cond.initialized cls :: vx_atS own ic cls names, vx_ot w = true)
    (hU : vx_Zq Bundle.tN "UNASSIGNED_STACK" Bundle.steD A s s.heap) (hN : vx_Zq Bundle.tN "SUPPRESSED_SENTINEL" Bundle.listD A s s.heap) (hS : va_S A s.heap H locs) (hsize : ls.size = c.maxLocals)
    (d0 : decode cc pc = .ok (.new ik, 3)) (d3 : decode cc (pc + 3) = .ok (.dup, 1)) (d4 : decode cc (pc + 4) = .ok (.ldc_w is, 3)) (d7 : decode cc (pc + 7) = .ok (.invokespecial ic, 3)) (d10 : decode cc (pc + 10) = .ok (.athrow, 1))
    (hout : ∀ x ∈ c.exceptionTable.toList, covers x (pc + 10) = false)
    (hRframes : names.length + 3 < R.frames) (hRlocals : (rest.map fun v => v.category).sum + (13 * (names.length + 1) + 43) ≤ R.locals) (hRcells : cells + 1 ≤ R.cells) (hRslots : slots + 6 ≤ R.slots) (hlocks : meth.locks = false)
    (hx : ∀ t : State, s.vm.Alike t.vm → H.size ≤ t.heap.size → (∀ q : Nat, q < H.size → t.heap[q]? = H[q]?) → XC cls s t)
    (hf : ∀ z ∈ locs, free z.base) (hc : cells + 1 ≤ mc) (hs : slots + 6 ≤ ms) :
    W p l e R s m args below meth c H locs cells slots (vx_MQ below Qc XC args s mc ms free) (F0 m pc ls rest) := by
  intro T hT X
  have htr : e.platform.stackTraces = false := (show e.platform.stackTraces = l.stackTraces by rw [X.admits.platform]).trans hl
  have Y := vx_rebase X (R' := { frames := R.frames, locals := R.locals, cells := 1, slots := 6 }) (Nat.le_refl _) (Nat.le_refl _) hRcells hRslots
  obtain ⟨s', hA⟩ : ∃ z, z = (T.setVm s.vm).setFrames (.invoking m args :: below) := ⟨_, rfl⟩
  rw [← hA] at Y
  have hvm : s'.vm = s.vm := by rw [hA]; rfl
  have hhp : s'.heap = H := by rw [hA]; exact hT
  have hW0 : s.WarmedH s'.vm := by rw [hvm]; exact State.WarmedH.refl s
  have hat' : ∀ w ∈ vx_atS own ic cls names, w.before args s' = true := fun w hw => vx_ot_at hW0 hvm.symm (hgood w (List.mem_cons_of_mem _ (List.mem_cons_of_mem _ hw))) (hat w hw)
  have hk' : (Cond.classLink own ik cls).before args s' = true := vx_ot_at hW0 hvm.symm (hgood _ List.mem_cons_self) hk
  have hini' : (Cond.initialized cls).before args s' = true := vx_ot_at hW0 hvm.symm (hgood _ (List.mem_cons_of_mem _ List.mem_cons_self)) hini
  have hU' : vx_Zq Bundle.tN "UNASSIGNED_STACK" Bundle.steD A s' s'.heap := by rw [hhp]; exact vx_Zq.moved hW0.alike (hU.kept hS.2.1)
  have hN' : vx_Zq Bundle.tN "SUPPRESSED_SENTINEL" Bundle.listD A s' s'.heap := by rw [hhp]; exact vx_Zq.moved hW0.alike (hN.kept hS.2.1)
  have h : ∀ w ∈ Bundle.ownAtoms own ic cls names, w.before args s' = true := vx_own hat' (vx_isRefq hU'.1) (vx_isRefq hN'.1) hU'.2.word hN'.2.word
  have hown' : s'.vm.findClass own = some m.cls := by rw [hvm]; exact hown
  have hins : (Cond.instantiable cls 6).before args s' = true := h _ (by simp [Bundle.ownAtoms])
  obtain ⟨vm₁, cX, kX, hfX, hkX, -, -, X₁, st1⟩ := Y.newCold hexec (own := own) (C := cls) (index := ik) (n := 6) hown' hk' hins hini'
    (g := F0 m pc ls rest) rfl (by rw [hb]; exact d0) (Nat.le_refl _) (Nat.le_refl _)
  generalize hT1 : (T.setVm vm₁).pushCell { cls := cX, slots := kX.instanceTypes.map defaultValue, vm := .none } = T1 at X₁ st1
  have hcat : (Value.ref T.heap.size).category = 1 := rfl
  have hcellA : T1.heap[T.heap.size]? = some (freshCell cX kX) := by rw [← hT1]; exact State.heap_pushCell_size _ _
  have d3' : decode c.code (pc + 3) = .ok (.dup, 1) := by rw [hb]; exact d3
  have d4' : decode c.code (pc + 4) = .ok (.ldc_w is, 3) := by rw [hb]; exact d4
  have hstr' : vk_R own is text sa s' := vk_R.warm hW0 hstr
  obtain ⟨U, hsteps, hrun, hend, hW, hsame, ce, hce, hO⟩ := X₁.ctorThrowS hexec htr (own := own) (cls := cls) (names := names) (ic := ic) hown' hcls hnames h (fun x hx => nomatch hx) hfX hkX hcellA (by rw [hhp, hT]; exact Nat.le_refl _) (msg := .ref sa) rfl
    (g := { method := m, pc := pc + 7, locals := ls, stack := .ref sa :: .ref T.heap.size :: .ref T.heap.size :: rest, locked := none }) rfl hsize rfl rfl (rest := rest) rfl
    (by rw [hb]; exact d7) (by rw [hb]; exact d10) hout hRframes (by simp only [List.map_cons, List.sum_cons, hcat]; omega) hlocks
  obtain ⟨f1, f2⟩ := vx_frame hsame
  rw [hhp] at f1 f2
  have hWs : s.WarmedH U.vm := State.WarmedH.trans hW0 hW
  have hcl : s.vm.findClass cls = some ce.cls := by
    have h9 := hO.cls
    rw [hvm] at h9
    exact h9
  have hall : s.sameButNew ({ U with vm := s.vm } : State) locs mc ms := by
    subst hA
    obtain ⟨e1, e2⟩ := hsame
    rw [State.setFrames_setFrames] at e1
    have h2 : (T.setVm s.vm).sameButNew ({ U with vm := s.vm } : State) [] (0 + 1) (0 + 6) := ⟨e1, e2⟩
    have h3 := X.same.trans h2
    rw [List.append_nil] at h3
    exact h3.mono hc hs
  refine ⟨U, ?_, .threw T.heap.size, hrun, hend, Or.inr ⟨T.heap.size, rfl, cls, ce, locs, hx U hWs.alike f1 (fun q hq => f2 q hq (fun z hz => nomatch hz)), hce, hO.vm, hcl, hWs, hall, hf⟩⟩
  refine st1 _ ?_
  show Steps p.tables e below (T1.setTop { method := m, pc := pc + 3, locals := ls, stack := .ref T.heap.size :: rest, locked := none }) _
  jvm_step X₁.here [X₁.here.top, hexec, d3', Value.category]
  exact X₁.ldcStringW hexec (own := own) (text := text) (index := is) (a := sa) hown' hstr'.1 hstr'.2
    (g := { method := m, pc := pc + 4, locals := ls, stack := .ref T.heap.size :: .ref T.heap.size :: rest, locked := none }) rfl d4' _ hsteps
end Ends
section Bodies
variable {l : Launch}
theorem vx_ofW {y : MethodName} {ws ws' : List Cond} {rm : Room} {Pc : Array Value → State → Prop} {Qc : Array Value → State → Outcome → State → Prop} {XC : String → State → State → Prop} {mc ms : Nat} {free : Addr → Prop} {cc : ByteArray} {maxL : Nat} {ret : Option FieldType}
    (hy : plainName y.cls = true) (hw : ws = Cond.code y cc maxL ret :: ws')
    (body : ∀ p e s m args below meth c s₁, BodyLoose p l y (headSpec ws rm) cc maxL ret e s m args below meth c s₁ → c.maxLocals = maxL → (∀ x ∈ c.exceptionTable.toList, False) → Pc args s →
      W p l e (headSpec ws rm).room s m args below meth c s.heap [] 0 0 (vx_MQ below Qc XC args s mc ms free) (entryFrame m args maxL)) : vx_Met l y ws rm Pc Qc XC mc ms free := by
  refine MetFree.of_bodyS (code := cc) (maxLocals := maxL) (ret := ret) hy ?_ ?_
  · intro args s m h hn
    obtain ⟨meth, c, h1, h2, h3, h4, h5, h6, -, -⟩ := Cond.code_spec hn (atoms_spec (ws := ws) h _ (by rw [hw]; exact List.mem_cons_self))
    exact ⟨meth, c, h1, h2, h3, h4, h5, h6⟩
  · intro p e s m args below meth c s₁ B hml hP _
    have hh0 : s₁.heap = s.heap := by rw [B.state]; rfl
    have ht : ∀ x ∈ c.exceptionTable.toList, False := by
      obtain ⟨meth9, c9, h1, h2, -, -, -, -, h7, -⟩ := Cond.code_spec B.named (atoms_spec (ws := ws) B.pre _ (by rw [hw]; exact List.mem_cons_self))
      cases Option.some.inj (h1.symm.trans B.method)
      cases Option.some.inj (h2.symm.trans (Stand.of_body B).code)
      intro x hx
      rw [Array.isEmpty_iff.mp h7] at hx
      cases hx
    obtain ⟨t, a1, o, b1, b2, b3⟩ := body p e s m args below meth c s₁ B hml ht hP s₁ hh0 (Stand.of_body B)
    exact ⟨t, o, a1, b1, b2, b3⟩
/-- the table of a body with handlers -/
theorem vx_table {p : Program} {x y : MethodName} {S : Spec} {cc bytes : ByteArray} {maxL maxL' : Nat} {ret ret' : Option FieldType} {e : Env} {s s₁ : State} {m : MethodId} {args : Array Value} {below : List Frame} {meth : Method} {c : Code} {hh : List (Nat × Nat × Nat × Nat)}
    (B : BodyLoose p l y S cc maxL ret e s m args below meth c s₁) (h : (Cond.codeWith y bytes maxL' ret' hh).before args s = true) : c.exceptionTable.toList = tableOf hh := by
  obtain ⟨m9, meth9, c9, hn9, h1, h2, -, -, h6, -⟩ := Cond.codeWith_spec h
  cases Option.some.inj (hn9.symm.trans B.named)
  cases Option.some.inj (h1.symm.trans B.method)
  cases Option.some.inj (h2.symm.trans (Stand.of_body B).code)
  rw [← h6, table_eq]
end Bodies
end VXA
/-! ===== END ===== -/
/-! ===== BEGIN a static call of a method with an exception table ===== -/
section VXS
variable {p : Program} {l : Launch} {e : Env} {R : Room} {s : State} {m : MethodId} {args : Array Value} {below : List Frame} {meth : Method} {c : Code} {T : State} {H : Heap} {locs : List Loc} {cells slots : Nat}
abbrev vx_CSW (R : Room) (s : State) (args : Array Value) (own : String) (index : Nat) (y : MethodName) (bytes : ByteArray) (maxL : Nat) (ret : Option FieldType) (hh : List (Nat × Nat × Nat × Nat)) (ws : List Cond) (rm : Room) (mc ms n : Nat) : Prop :=
  (rm.cells = mc ∧ rm.slots = ms ∧ rm.frames + 1 ≤ R.frames ∧ 8 + (maxL + 11) + rm.locals ≤ R.locals ∧ (∀ w ∈ ws, ∀ (a' : Array Value) (U : State), s.WarmedH U.vm → w.before a' U = true) ∧ Cond.codeWith y bytes maxL ret hh ∈ ws) ∧
  (Cond.codeWith y bytes maxL ret hh).before args s = true ∧ (Cond.initialized y.cls).before args s = true ∧ (y.cls ≠ "java/lang/invoke/MethodHandle" ∧ y.cls ≠ "java/lang/invoke/VarHandle") ∧
  (∀ sig, parseMethodDescriptor y.desc = some sig → n = sig.parameters.length) ∧ (Cond.methodLink own index y).before args s = true ∧ (Cond.static y).before args s = true
theorem vx_cwSW {own : String} {index maxL mc ms : Nat} {y : MethodName} {bytes : ByteArray} {ret : Option FieldType} {hh : List (Nat × Nat × Nat × Nat)} {Ts ws ws' : List Cond} {rm : Room} (n : Nat) (ht : ∀ w ∈ Ts, w.before args s = true) (hT : GoodIn Ts (va_wsS own index y ws)) (hw : ws = Cond.codeWith y bytes maxL ret hh :: ws') (hrc : rm.cells = mc) (hrs : rm.slots = ms)
    (hd : y.cls ≠ "java/lang/invoke/MethodHandle" ∧ y.cls ≠ "java/lang/invoke/VarHandle" ∧ (parseMethodDescriptor y.desc).map (fun d => d.parameters.length) = some n) (hR : rm.frames + 1 ≤ R.frames ∧ 8 + (maxL + 11) + rm.locals ≤ R.locals) :
    vx_CSW R s args own index y bytes maxL ret hh ws rm mc ms n := by
  have ok : ∀ w ∈ va_wsS own index y ws, w.before args s = true := fun w h => ht w (hT w h).1
  have hG : GoodIn Ts ws := fun w h => hT w (by unfold va_wsS; exact List.mem_append_right _ h)
  have hc : Cond.codeWith y bytes maxL ret hh ∈ ws := by rw [hw]; exact List.mem_cons_self
  refine ⟨⟨hrc, hrs, hR.1, hR.2, pay_in ht hG, hc⟩, ht _ (hG _ hc).1, ok _ (by simp [va_wsS]), ⟨hd.1, hd.2.1⟩, fun sig h => ?_, ok _ (by simp [va_wsS]), ok _ (by simp [va_wsS])⟩
  have h2 := hd.2.2
  rw [h] at h2
  exact (Option.some.inj h2).symm
theorem vx_callSW (X : Stand p l e R s m args below meth c T locs cells slots) (hexec : p.tables.exec = Jvm.exec) {own : String} {index : Nat} {y : MethodName} {bytes : ByteArray} {maxL : Nat} {ret : Option FieldType} {hh : List (Nat × Nat × Nat × Nat)}
    (hown : s.vm.findClass own = some m.cls) (hlink : (Cond.methodLink own index y).before args s = true) (hstat : (Cond.static y).before args s = true) (hinit : (Cond.initialized y.cls).before args s = true)
    (hcode : (Cond.codeWith y bytes maxL ret hh).before args s = true) (hy : y.cls ≠ "java/lang/invoke/MethodHandle" ∧ y.cls ≠ "java/lang/invoke/VarHandle")
    {W9 : Nat} {Pre : Pt → Array Value → Prop} {Post : Pt → Array Value → Option Value → Pt → Prop} (hK : Back l R p e below s args y 3 W9 Pre Post)
    {g : JFrame} (hg : g.method = m) (hsize : g.locals.size = c.maxLocals) {argsL rest : List Value} (hlen : ∀ sig, parseMethodDescriptor y.desc = some sig → argsL.length = sig.parameters.length)
    (hstack : g.stack = argsL.reverse ++ rest) (hW : 2 * g.monitorRoom + (rest.map fun v => v.category).sum ≤ W9) (hdg : decode c.code g.pc = .ok (.invokestatic index, 3))
    (hpre : ∀ vm₁, s.WarmedH vm₁ → Pre ⟨T.setVm vm₁, locs, cells, slots⟩ argsL.toArray) :
    ∃ (v : Option Value) (vm₁ : Vm) (B : Pt), s.WarmedH vm₁ ∧ Stand p l e R s m args below meth c B.U B.locs B.cells B.slots ∧ Post ⟨T.setVm vm₁, locs, cells, slots⟩ argsL.toArray v B ∧
      ∀ target, Steps p.tables e below (B.U.setTop { g with pc := g.pc + 3, stack := v.toList ++ rest }) target → Steps p.tables e below (T.setTop g) target := by
  obtain ⟨mk, methM, cM, hnamed, hmethM, -, -, -, -, -, -, hsigM⟩ := Cond.codeWith_spec hcode
  have hstatic : methM.isStatic = true := Cond.static_spec hnamed hmethM hstat
  obtain ⟨kP, hkP, -⟩ := className_of_methodNamed hnamed
  have hinitP : kP.init = .initialized := Cond.initialized_spec (findClass_of_methodNamed hnamed) hkP hinit
  obtain ⟨vm₁, X₁, hstep₁⟩ := X.invokestatic hexec hown hlink hnamed hmethM hstatic hkP hinitP hy (g := g) hg (argsL := argsL) (rest := rest) (hlen _ hsigM) hstack hdg
  obtain ⟨v, B, X', hpost, hsteps⟩ := hK m meth c ⟨T.setVm vm₁, locs, cells, slots⟩ { g with stack := rest } (.invokestatic index) mk argsL.toArray X₁ hg hsize hdg hW (X₁.named hnamed) (hpre vm₁ X₁.warmed)
  exact ⟨v, vm₁, B, X₁.warmed, X', hpost, fun target h => hstep₁ _ fun acts => by rw [doInvoke_state]; exact hsteps.trans h⟩
theorem vx_runSW {y : MethodName} {bytes cc : ByteArray} {maxL nL mc ms n index : Nat} {ret : Option FieldType} {hh : List (Nat × Nat × Nat × Nat)} {ws : List Cond} {rm : Room} {Pc : Array Value → State → Prop} {Qc : Array Value → State → Outcome → State → Prop} {free : Addr → Prop} {Ts : List Cond} {own : String} {As rest : List Value} {g : JFrame}
    (S : CallFix p m c cc nL s args Ts own) (hM : Met l y ws rm Pc Qc mc ms free) (cw : vx_CSW R s args own index y bytes maxL ret hh ws rm mc ms n) (hp : PreS s H Pc As)
    (hg : g.method = m) (hn : As.length = n) (hsize : g.locals.size = nL) (hstack : g.stack = As.reverse ++ rest) (hW : 2 * g.monitorRoom + (rest.map fun v => v.category).sum ≤ 8) (hdg : decode cc g.pc = .ok (.invokestatic index, 3)) (hf : cells + mc ≤ R.cells ∧ slots + ms ≤ R.slots) :
    va_Run p l e R s m args below meth c H locs cells slots mc ms g rest (Qc As.toArray) (free) := by
  obtain ⟨⟨hrc, hrs, hfr, hlo, hws, hcw⟩, hcode, hini, hy, hlen, hl, hstt⟩ := cw
  have hK : Back l R p e below s args y 3 8 (PreOf R mc ms Pc) (PostOf Qc mc ms free) := va_backW (hh := hh) (bytes := bytes) (maxL := maxL) (ret := ret) hM hp.1 hrc hrs hfr hlo hws hcw (fun a' U hW => word_at hW (Or.inl (by first | rfl | simp [Cond.onTables, Cond.keeps, Cond.steady])) hini)
  obtain ⟨hx, hb, hml, ho, -⟩ := S
  intro T hT X
  obtain ⟨v, vm₁, ⟨U', l2, c2, s2⟩, hW₁, X', ⟨g', mk, t, L, e1, e2, hq, h1, hL, h2, h3⟩, st⟩ := vx_callSW X hx (hh := hh) (bytes := bytes) (maxL := maxL) (ret := ret) ho hl hstt hini hcode hy hK hg (hsize.trans hml.symm) (argsL := As) (rest := rest) (fun sig h => hn.trans (hlen sig h)) hstack hW (by rw [hb]; exact hdg)
    (fun vm₁ hW₁ => ⟨hf.1, hf.2, hp.2 (T.setVm vm₁) hT hW₁⟩)
  dsimp only [Pt.U, Pt.locs, Pt.cells, Pt.slots] at X' e1 e2 h1 h2 h3 st
  subst h1; subst h2; subst h3
  exact ⟨v, (T.setVm vm₁).calling g' mk As.toArray, t, U', L, hT, X', hL, e1, e2, hq, st⟩
/-- not caught here, past rows that name other classes: it goes on to the caller -/
theorem vx_outP {p : Program} {l : Launch} {e : Env} {R : Room} {s : State} {m : MethodId} {args : Array Value} {below : List Frame} {meth : Method} {c : Code} {H : Heap} {locs : List Loc} {cells slots : Nat} {free : Addr → Prop} {ls : Array Slot} {rest : List Value} {Qc : Array Value → State → Outcome → State → Prop} {XC : String → State → State → Prop}
    {pc : Nat} {own E : String} {ce : Cell} {q : Addr} {mc ms : Nat} (hown : s.vm.findClass own = some m.cls) (hlocks : meth.locks = false)
    (hpass : ∀ z ∈ c.exceptionTable.toList, covers z pc = false ∨ (z.catchType ≠ 0 ∧ ∃ nm : String, (Cond.classLink own z.catchType nm).before args s = true ∧ va_Nc E nm s)) (hcell : H[q]? = some ce) (hv : ce.vm = .none) (hcl : s.vm.findClass E = some ce.cls)
    (hx : ∀ t : State, t.heap = H → s.vm.Alike t.vm → XC E s t) (hf : ∀ z ∈ locs, free z.base) (hc : cells ≤ mc) (hs : slots ≤ ms) :
    vx_W p l e R s m args below meth c H locs cells slots (vx_MQ below Qc XC args s mc ms free) (F0 m pc ls rest) q := by
  intro T hT X
  have hpl : e.platform.magicAccessors = ({} : Platform).magicAccessors := by rw [X.admits.platform]
  obtain ⟨vm', hW', X', st⟩ := X.outThrough hlocks q (g := F0 m pc ls rest) rfl rfl rfl (cell := ce) (by rw [hT]; exact hcell) (by rw [hv]; rfl)
    (by obtain ⟨k9, h9, -⟩ := Vm.findClass_spec hcl; exact ⟨k9, h9⟩) (fun z hz => by
      rcases hpass z hz with h | ⟨hz0, nm, hl1, hn1⟩
      · exact Or.inl h
      · obtain ⟨c6, hc6, hcl6⟩ := Cond.classLink_spec hown hl1 e.platform hpl
        obtain ⟨a8, b8, h1, h2, h3⟩ := hn1
        cases Option.some.inj (h1.symm.trans hcl)
        cases Option.some.inj (h2.symm.trans hc6)
        exact Or.inr ⟨hz0, _, hcl6, h3⟩)
  obtain ⟨g₀, hfr⟩ := X'.frames_eq
  have hcell9 : ((T.setVm vm').setFrames (.throwing q :: below)).heap[q]? = some ce := by
    show T.heap[q]? = some ce
    rw [hT]; exact hcell
  have hend : Ended ((T.setVm vm').setFrames (.throwing q :: below)) below (.threw q) := State.frames_setFrames _ (State.cur_lt_of_frames hfr)
  refine ⟨(T.setVm vm').setFrames (.throwing q :: below), ?_, .threw q, X'.here.running, hend, Or.inr ⟨q, rfl, E, ce, locs, hx _ hT (X'.ends _).1.alike, hcell9, hv, hcl, (X'.ends _).1, (X'.ends _).2.mono hc hs, hf⟩⟩
  rw [X.pushThrowing_eq]
  exact st
/-- a thing of a world lies in the heap -/
theorem vx_lt {D : va_G} {cl : List vw_C} {ws : va_W} {H1 : Heap} (h : va_P D cl ws H1) {k : Nat} {q : Nat × va_E} (hk : ws[k]? = some q) : q.1 < H1.size := (h k q hk).lt
end VXS
/-! ===== END ===== -/
/-! ===== BEGIN methods with a table of their own: called by a name, returning or throwing ===== -/
section VXH
/-! vx_backW, vx_callVX, vx_callSX, vx_callVW, vx_runVW, vx_runVX, vx_runSX, vx_ofWH follow the same proofs as their sisters above (Free/Laws.lean, Shelf42/LK1.lean); vx_outP calls Shelf42/NT130.lean (outThrough). -/
section
variable {l : Launch} {R : Room} {p : Program} {e : Env} {below : List Frame} {s : State} {sargs : Array Value} {y : MethodName} {len W9 : Nat}
theorem vx_backW {ws : List Cond} {rm : Room} {Pc : Array Value → State → Prop} {Qc : Array Value → State → Outcome → State → Prop} {XC : String → State → State → Prop} {mc ms : Nat} {free : Addr → Prop} {bytes : ByteArray} {maxL : Nat} {ret : Option FieldType} {hh : List (Nat × Nat × Nat × Nat)}
    (hM : vx_Met l y ws rm Pc Qc XC mc ms free) (hblind : FrameBlind Pc) (hrc : rm.cells = mc) (hrs : rm.slots = ms)
    (hframes : rm.frames + 1 ≤ R.frames) (hlocals : W9 + (maxL + 11) + rm.locals ≤ R.locals)
    (hws : ∀ w ∈ ws, ∀ a' U, s.WarmedH U.vm → w.before a' U = true) (hcode : Cond.codeWith y bytes maxL ret hh ∈ ws) (hinit : ∀ a' U, s.WarmedH U.vm → (Cond.initialized y.cls).before a' U = true) :
    vx_Back l R p e below s sargs y len W9 (PreOf R mc ms Pc) (PostOf Qc mc ms free) (vx_Post XC mc ms free) := by
  intro m meth c A g ig mk a X hg hsize hdg hW hn hp
  have h1 : (headSpec ws rm).pre.before a A.U = true := atoms_intro fun w hw => hws w hw _ _ X.warmed
  have h2 : (Cond.codeWith y bytes maxL ret hh).before a A.U = true := hws _ hcode _ _ X.warmed
  have h3 : (Cond.initialized y.cls).before a A.U = true := hinit _ _ X.warmed
  have h4 : A.cells + (headSpec ws rm).room.cells ≤ R.cells := by rw [show (headSpec ws rm).room.cells = mc from hrc]; exact hp.1
  have h5 : A.slots + (headSpec ws rm).room.slots ≤ R.slots := by rw [show (headSpec ws rm).room.slots = ms from hrs]; exact hp.2.1
  have hPc : Pc a (A.U.calling g mk a) := hblind _ _ _ _ hp.2.2
  obtain ⟨U, Ls, c0, s0⟩ := A
  dsimp only [Pt.U, Pt.locs, Pt.cells, Pt.slots] at h1 h2 h3 h4 h5 X hn hPc ⊢
  obtain ⟨m9, methY, cY, hn9, hmY, hcY, -, hlY, -⟩ := Cond.codeWith_spec h2
  cases Option.some.inj (hn9.symm.trans hn)
  obtain ⟨kY, hkY, -⟩ := className_of_methodNamed hn
  have hinitY : kY.init = .initialized := Cond.initialized_spec (findClass_of_methodNamed hn) hkY h3
  have h : At U g.method c below := by rw [hg]; exact X.here
  have hlocals9 : W9 + (maxL + 11) + (headSpec ws rm).room.locals ≤ R.locals := hlocals
  have happ : (headSpec ws rm).appliesLoose y e.platform (U.calling g mk a) = true :=
    Spec.appliesLoose_calling (g := g) h hdg hn hkY hinitY
      (X.room_calling (g := g) (R' := (headSpec ws rm).room) hsize hmY hcY hframes (by rw [hlY]; omega) h4 h5) h1
  obtain ⟨mid, hmid⟩ := h.above
  have hfr : (U.setTop g).frames = (.java g :: mid) ++ below := by rw [State.frames_setTop' g h.top, hmid]; rfl
  obtain ⟨o, s₂, hsteps, -, hend, hq⟩ := Steps.callFree hM p X.admits X.cas X.clock (acts := []) hfr happ hPc trivial
  have hq' : vx_Q Qc XC mc ms free a (U.calling g mk a) o s₂ := hq
  rw [State.frames_setTop' g h.top] at hend
  obtain ⟨g₀, hg0⟩ := Option.isSome_iff_exists.mp h.top
  obtain ⟨r, hr⟩ := State.topJava?_eq_some.mp hg0
  have hr' : (({ U with heap := s₂.heap, slotsUsed := s₂.slotsUsed } : State).setVm s₂.vm).frames = .java g₀ :: r := hr
  rcases hq' with ⟨hqc, L, hfe, hL⟩ | ⟨q, rfl, E, ce, L, hx, hce, hcv, hcl, hW₂, hsm, hL⟩
  · obtain ⟨⟨v, rfl⟩, hW₂, e2, q2, q3, q4, q5, q6⟩ := id hfe
    have e3 : s₂ = ({ (U.calling g mk a).setFrames s₂.frames with heap := s₂.heap, slotsUsed := s₂.slotsUsed } : State).setVm s₂.vm := by
      have : s₂ = ({ s₂ with vm := (U.calling g mk a).vm } : State).setVm s₂.vm := rfl
      rw [e2] at this
      exact this
    obtain ⟨c₂, i₂, len₂, hc₂, hd₂, hf₂⟩ := hend
    have hW' : U.WarmedH s₂.vm := hW₂
    have hcc : c₂ = c := by
      have h1 : s₂.code? g.method = U.code? g.method := by
        rw [State.code?_eq, State.code?_eq, hW'.alike.method?]
      exact Option.some.inj (hc₂.symm.trans (h1.trans h.code))
    subst hcc
    have hlen : len₂ = len := by rw [hdg] at hd₂; cases hd₂; rfl
    subst hlen
    have hs₂ : s₂ = (({ U with heap := s₂.heap, slotsUsed := s₂.slotsUsed } : State).setVm s₂.vm).setTop { g with pc := g.pc + len₂, stack := v.toList ++ g.stack } := by
      refine e3.trans ?_
      rw [hf₂, State.calling_eq h.top, State.setFrames_setFrames, State.setTop_of_frames _ hr', hr]
      rfl
    have hsame : U.sameButNew ({ U with heap := s₂.heap, slotsUsed := s₂.slotsUsed } : State) L mc ms := by
      refine ⟨?_, q2, q3, q4, q5, q6⟩
      obtain ⟨t, ht, -⟩ := State.frames_cons hr
      show ({ U with heap := s₂.heap, slotsUsed := s₂.slotsUsed } : State) = { U.setFrames U.frames with heap := s₂.heap, slotsUsed := s₂.slotsUsed }
      rw [State.setFrames_self ht]
    subst hg
    refine Or.inl ⟨v, ⟨(({ U with heap := s₂.heap, slotsUsed := s₂.slotsUsed } : State).setVm s₂.vm), Ls ++ L, c0 + mc, s0 + ms⟩,
      ⟨X.admits, X.cas, X.clock, X.frames, X.room, X.hears, X.method, X.code, (X.here.setHeapUsed s₂.heap s₂.slotsUsed).setVm hW'.alike, X.tail, State.WarmedH.trans X.warmed hW', X.limits, X.bytes, X.same.trans (hsame.setVm s.vm)⟩,
      ⟨g, mk, s₂, L, rfl, rfl, hqc, rfl, hL, rfl, rfl⟩, ?_⟩
    show Steps p.tables e below _ ((({ U with heap := s₂.heap, slotsUsed := s₂.slotsUsed } : State).setVm s₂.vm).setTop { g with pc := g.pc + len₂, stack := v.toList ++ g.stack })
    rw [← hs₂]
    exact hsteps
  · obtain ⟨e2, q2, q3, q4, q5, q6⟩ := id hsm
    have e3 : s₂ = ({ (U.calling g mk a).setFrames s₂.frames with heap := s₂.heap, slotsUsed := s₂.slotsUsed } : State).setVm s₂.vm := by
      have : s₂ = ({ s₂ with vm := (U.calling g mk a).vm } : State).setVm s₂.vm := rfl
      rw [e2] at this
      exact this
    have hf₂ : s₂.frames = .throwing q :: .java g :: U.frames.tail := hend
    have hW' : U.WarmedH s₂.vm := hW₂
    have hs₂ : s₂ = ((({ U with heap := s₂.heap, slotsUsed := s₂.slotsUsed } : State).setVm s₂.vm).setTop g).pushFrame (.throwing q) := by
      refine e3.trans ?_
      rw [hf₂, State.calling_eq h.top, State.setFrames_setFrames, State.pushFrame, State.frames_setTop _ hr', State.setTop_of_frames _ hr', State.setFrames_setFrames, hr]
      rfl
    have hsame : U.sameButNew ({ U with heap := s₂.heap, slotsUsed := s₂.slotsUsed } : State) L mc ms := by
      refine ⟨?_, q2, q3, q4, q5, q6⟩
      obtain ⟨t, ht, -⟩ := State.frames_cons hr
      show ({ U with heap := s₂.heap, slotsUsed := s₂.slotsUsed } : State) = { U.setFrames U.frames with heap := s₂.heap, slotsUsed := s₂.slotsUsed }
      rw [State.setFrames_self ht]
    subst hg
    refine Or.inr ⟨q, ⟨(({ U with heap := s₂.heap, slotsUsed := s₂.slotsUsed } : State).setVm s₂.vm), Ls ++ L, c0 + mc, s0 + ms⟩,
      ⟨X.admits, X.cas, X.clock, X.frames, X.room, X.hears, X.method, X.code, (X.here.setHeapUsed s₂.heap s₂.slotsUsed).setVm hW'.alike, X.tail, State.WarmedH.trans X.warmed hW', X.limits, X.bytes, X.same.trans (hsame.setVm s.vm)⟩,
      ⟨g, mk, s₂, L, E, ce, rfl, rfl, hx, hce, hcv, hcl, rfl, hL, rfl, rfl⟩, ?_⟩
    show Steps p.tables e below _ (((({ U with heap := s₂.heap, slotsUsed := s₂.slotsUsed } : State).setVm s₂.vm).setTop g).pushFrame (.throwing q))
    rw [← hs₂]
    exact hsteps
end
variable {p : Program} {l : Launch} {e : Env} {R : Room} {s : State} {m : MethodId} {args : Array Value} {below : List Frame} {meth : Method} {c : Code} {T : State} {H : Heap} {locs : List Loc} {cells slots : Nat}
theorem vx_callVX (X : Stand p l e R s m args below meth c T locs cells slots) (hexec : p.tables.exec = Jvm.exec) {own C : String} {index : Nat} {y : MethodName} {bytes : ByteArray} {maxL : Nat} {ret : Option FieldType} {hh : List (Nat × Nat × Nat × Nat)}
    (hown : s.vm.findClass own = some m.cls) (hlink : (Cond.methodLink own index y).before args s = true) (hinst : (Cond.instanceMethod y).before args s = true) (hsel : (Cond.selects C y y).before args s = true)
    (hcode : (Cond.codeWith y bytes maxL ret hh).before args s = true) (hy : y.cls ≠ "java/lang/invoke/MethodHandle" ∧ y.cls ≠ "java/lang/invoke/VarHandle")
    {W9 : Nat} {Pre : Pt → Array Value → Prop} {Post : Pt → Array Value → Option Value → Pt → Prop} {PostX : Pt → Array Value → Addr → Pt → Prop} (hK : vx_Back l R p e below s args y 3 W9 Pre Post PostX)
    {b : Addr} {cellB : Cell} (hcell : T.heap[b]? = some cellB) (hobj : cellB.vm.isStatics = false) (hcls : s.vm.findClass C = some cellB.cls)
    {g : JFrame} (hg : g.method = m) (hsize : g.locals.size = c.maxLocals) {argsL rest : List Value} (hlen : ∀ sig, parseMethodDescriptor y.desc = some sig → argsL.length = sig.parameters.length)
    (hstack : g.stack = argsL.reverse ++ .ref b :: rest) (hW : 2 * g.monitorRoom + (rest.map fun v => v.category).sum ≤ W9) (hdg : decode c.code g.pc = .ok (.invokevirtual index, 3))
    (hpre : ∀ vm₁, s.WarmedH vm₁ → Pre ⟨T.setVm vm₁, locs, cells, slots⟩ (Value.ref b :: argsL).toArray) :
    (∃ (v : Option Value) (vm₁ : Vm) (B : Pt), s.WarmedH vm₁ ∧ Stand p l e R s m args below meth c B.U B.locs B.cells B.slots ∧ Post ⟨T.setVm vm₁, locs, cells, slots⟩ (Value.ref b :: argsL).toArray v B ∧
      ∀ target, Steps p.tables e below (B.U.setTop { g with pc := g.pc + 3, stack := v.toList ++ rest }) target → Steps p.tables e below (T.setTop g) target) ∨
    (∃ (q : Addr) (vm₁ : Vm) (B : Pt), s.WarmedH vm₁ ∧ Stand p l e R s m args below meth c B.U B.locs B.cells B.slots ∧ PostX ⟨T.setVm vm₁, locs, cells, slots⟩ (Value.ref b :: argsL).toArray q B ∧
      Steps p.tables e below (T.setTop g) ((B.U.setTop { g with stack := rest }).pushFrame (.throwing q))) := by
  obtain ⟨mk, methM, hnamed, hmethM, hstM, habM⟩ := Cond.instanceMethod_spec hinst
  obtain ⟨m8, methM', cM, hn8, hmethM', -, -, -, -, -, -, hsigM⟩ := Cond.codeWith_spec hcode
  cases Option.some.inj (hn8.symm.trans hnamed)
  cases hmethM.symm.trans hmethM'
  obtain ⟨c2, r2, m2, q1, q2, q3, q4, kP, hkP, hkPi⟩ := Cond.selects_spec hsel
  cases hcls.symm.trans q1
  cases (State.methodFound?_of_named hnamed hy).symm.trans q2
  cases hnamed.symm.trans q3
  have hselP : selectMethod e.platform s.vm cellB.cls mk = .method mk := by rw [Launch.admits_selectMethod X.admits]; exact q4
  obtain ⟨vm₁, X₁, hstep₁⟩ := X.invokevirtual hexec hown hlink hnamed hmethM hstM hkP hkPi hy (a := b) (cell := cellB) hcell
    (fun z h => by rw [h] at hobj; cases hobj) hselP hmethM habM hkP hkPi (g := g) hg (argsL := argsL) (rest := rest) (hlen _ hsigM) hstack hdg
  rcases hK m meth c ⟨T.setVm vm₁, locs, cells, slots⟩ { g with stack := rest } (.invokevirtual index) mk (Value.ref b :: argsL).toArray X₁ hg hsize hdg hW (X₁.named hnamed) (hpre vm₁ X₁.warmed) with ⟨v, B, X', hpost, hsteps⟩ | ⟨q, B, X', hpost, hsteps⟩
  · exact Or.inl ⟨v, vm₁, B, X₁.warmed, X', hpost, fun target h => hstep₁ _ fun acts => by rw [doInvoke_state]; exact hsteps.trans h⟩
  · exact Or.inr ⟨q, vm₁, B, X₁.warmed, X', hpost, hstep₁ _ fun acts => by rw [doInvoke_state]; exact hsteps⟩
theorem vx_callSX (X : Stand p l e R s m args below meth c T locs cells slots) (hexec : p.tables.exec = Jvm.exec) {own : String} {index : Nat} {y : MethodName} {bytes : ByteArray} {maxL : Nat} {ret : Option FieldType} {hh : List (Nat × Nat × Nat × Nat)}
    (hown : s.vm.findClass own = some m.cls) (hlink : (Cond.methodLink own index y).before args s = true) (hstat : (Cond.static y).before args s = true) (hinit : (Cond.initialized y.cls).before args s = true)
    (hcode : (Cond.codeWith y bytes maxL ret hh).before args s = true) (hy : y.cls ≠ "java/lang/invoke/MethodHandle" ∧ y.cls ≠ "java/lang/invoke/VarHandle")
    {W9 : Nat} {Pre : Pt → Array Value → Prop} {Post : Pt → Array Value → Option Value → Pt → Prop} {PostX : Pt → Array Value → Addr → Pt → Prop} (hK : vx_Back l R p e below s args y 3 W9 Pre Post PostX)
    {g : JFrame} (hg : g.method = m) (hsize : g.locals.size = c.maxLocals) {argsL rest : List Value} (hlen : ∀ sig, parseMethodDescriptor y.desc = some sig → argsL.length = sig.parameters.length)
    (hstack : g.stack = argsL.reverse ++ rest) (hW : 2 * g.monitorRoom + (rest.map fun v => v.category).sum ≤ W9) (hdg : decode c.code g.pc = .ok (.invokestatic index, 3))
    (hpre : ∀ vm₁, s.WarmedH vm₁ → Pre ⟨T.setVm vm₁, locs, cells, slots⟩ argsL.toArray) :
    (∃ (v : Option Value) (vm₁ : Vm) (B : Pt), s.WarmedH vm₁ ∧ Stand p l e R s m args below meth c B.U B.locs B.cells B.slots ∧ Post ⟨T.setVm vm₁, locs, cells, slots⟩ argsL.toArray v B ∧
      ∀ target, Steps p.tables e below (B.U.setTop { g with pc := g.pc + 3, stack := v.toList ++ rest }) target → Steps p.tables e below (T.setTop g) target) ∨
    (∃ (q : Addr) (vm₁ : Vm) (B : Pt), s.WarmedH vm₁ ∧ Stand p l e R s m args below meth c B.U B.locs B.cells B.slots ∧ PostX ⟨T.setVm vm₁, locs, cells, slots⟩ argsL.toArray q B ∧
      Steps p.tables e below (T.setTop g) ((B.U.setTop { g with stack := rest }).pushFrame (.throwing q))) := by
  obtain ⟨mk, methM, cM, hnamed, hmethM, -, -, -, -, -, -, hsigM⟩ := Cond.codeWith_spec hcode
  have hstatic : methM.isStatic = true := Cond.static_spec hnamed hmethM hstat
  obtain ⟨kP, hkP, -⟩ := className_of_methodNamed hnamed
  have hinitP : kP.init = .initialized := Cond.initialized_spec (findClass_of_methodNamed hnamed) hkP hinit
  obtain ⟨vm₁, X₁, hstep₁⟩ := X.invokestatic hexec hown hlink hnamed hmethM hstatic hkP hinitP hy (g := g) hg (argsL := argsL) (rest := rest) (hlen _ hsigM) hstack hdg
  rcases hK m meth c ⟨T.setVm vm₁, locs, cells, slots⟩ { g with stack := rest } (.invokestatic index) mk argsL.toArray X₁ hg hsize hdg hW (X₁.named hnamed) (hpre vm₁ X₁.warmed) with ⟨v, B, X', hpost, hsteps⟩ | ⟨q, B, X', hpost, hsteps⟩
  · exact Or.inl ⟨v, vm₁, B, X₁.warmed, X', hpost, fun target h => hstep₁ _ fun acts => by rw [doInvoke_state]; exact hsteps.trans h⟩
  · exact Or.inr ⟨q, vm₁, B, X₁.warmed, X', hpost, hstep₁ _ fun acts => by rw [doInvoke_state]; exact hsteps⟩
theorem vx_callVW (X : Stand p l e R s m args below meth c T locs cells slots) (hexec : p.tables.exec = Jvm.exec) {own C : String} {index : Nat} {y : MethodName} {bytes : ByteArray} {maxL : Nat} {ret : Option FieldType} {hh : List (Nat × Nat × Nat × Nat)}
    (hown : s.vm.findClass own = some m.cls) (hlink : (Cond.methodLink own index y).before args s = true) (hinst : (Cond.instanceMethod y).before args s = true) (hsel : (Cond.selects C y y).before args s = true)
    (hcode : (Cond.codeWith y bytes maxL ret hh).before args s = true) (hy : y.cls ≠ "java/lang/invoke/MethodHandle" ∧ y.cls ≠ "java/lang/invoke/VarHandle")
    {W9 : Nat} {Pre : Pt → Array Value → Prop} {Post : Pt → Array Value → Option Value → Pt → Prop} (hK : Back l R p e below s args y 3 W9 Pre Post)
    {b : Addr} {cellB : Cell} (hcell : T.heap[b]? = some cellB) (hobj : cellB.vm.isStatics = false) (hcls : s.vm.findClass C = some cellB.cls)
    {g : JFrame} (hg : g.method = m) (hsize : g.locals.size = c.maxLocals) {argsL rest : List Value} (hlen : ∀ sig, parseMethodDescriptor y.desc = some sig → argsL.length = sig.parameters.length)
    (hstack : g.stack = argsL.reverse ++ .ref b :: rest) (hW : 2 * g.monitorRoom + (rest.map fun v => v.category).sum ≤ W9) (hdg : decode c.code g.pc = .ok (.invokevirtual index, 3))
    (hpre : ∀ vm₁, s.WarmedH vm₁ → Pre ⟨T.setVm vm₁, locs, cells, slots⟩ (Value.ref b :: argsL).toArray) :
    ∃ (v : Option Value) (vm₁ : Vm) (B : Pt), s.WarmedH vm₁ ∧ Stand p l e R s m args below meth c B.U B.locs B.cells B.slots ∧ Post ⟨T.setVm vm₁, locs, cells, slots⟩ (Value.ref b :: argsL).toArray v B ∧
      ∀ target, Steps p.tables e below (B.U.setTop { g with pc := g.pc + 3, stack := v.toList ++ rest }) target → Steps p.tables e below (T.setTop g) target := by
  obtain ⟨mk, methM, hnamed, hmethM, hstM, habM⟩ := Cond.instanceMethod_spec hinst
  obtain ⟨m8, methM', cM, hn8, hmethM', -, -, -, -, -, -, hsigM⟩ := Cond.codeWith_spec hcode
  cases Option.some.inj (hn8.symm.trans hnamed)
  cases hmethM.symm.trans hmethM'
  obtain ⟨c2, r2, m2, q1, q2, q3, q4, kP, hkP, hkPi⟩ := Cond.selects_spec hsel
  cases hcls.symm.trans q1
  cases (State.methodFound?_of_named hnamed hy).symm.trans q2
  cases hnamed.symm.trans q3
  have hselP : selectMethod e.platform s.vm cellB.cls mk = .method mk := by rw [Launch.admits_selectMethod X.admits]; exact q4
  obtain ⟨vm₁, X₁, hstep₁⟩ := X.invokevirtual hexec hown hlink hnamed hmethM hstM hkP hkPi hy (a := b) (cell := cellB) hcell
    (fun z h => by rw [h] at hobj; cases hobj) hselP hmethM habM hkP hkPi (g := g) hg (argsL := argsL) (rest := rest) (hlen _ hsigM) hstack hdg
  obtain ⟨v, B, X', hpost, hsteps⟩ := hK m meth c ⟨T.setVm vm₁, locs, cells, slots⟩ { g with stack := rest } (.invokevirtual index) mk (Value.ref b :: argsL).toArray X₁ hg hsize hdg hW (X₁.named hnamed) (hpre vm₁ X₁.warmed)
  exact ⟨v, vm₁, B, X₁.warmed, X', hpost, fun target h => hstep₁ _ fun acts => by rw [doInvoke_state]; exact hsteps.trans h⟩
abbrev vx_CVW (R : Room) (s : State) (args : Array Value) (own C : String) (index : Nat) (y : MethodName) (bytes : ByteArray) (maxL : Nat) (ret : Option FieldType) (hh : List (Nat × Nat × Nat × Nat)) (ws : List Cond) (rm : Room) (mc ms n : Nat) : Prop :=
  (rm.cells = mc ∧ rm.slots = ms ∧ rm.frames + 1 ≤ R.frames ∧ 8 + (maxL + 11) + rm.locals ≤ R.locals ∧ (∀ w ∈ ws, ∀ (a' : Array Value) (U : State), s.WarmedH U.vm → w.before a' U = true) ∧ Cond.codeWith y bytes maxL ret hh ∈ ws) ∧
  (Cond.codeWith y bytes maxL ret hh).before args s = true ∧ (Cond.initialized y.cls).before args s = true ∧ (y.cls ≠ "java/lang/invoke/MethodHandle" ∧ y.cls ≠ "java/lang/invoke/VarHandle") ∧
  (∀ sig, parseMethodDescriptor y.desc = some sig → n = sig.parameters.length) ∧ (Cond.methodLink own index y).before args s = true ∧ (Cond.instanceMethod y).before args s = true ∧ (Cond.selects C y y).before args s = true
theorem vx_cwVW {own C : String} {index maxL mc ms : Nat} {y : MethodName} {bytes : ByteArray} {ret : Option FieldType} {hh : List (Nat × Nat × Nat × Nat)} {Ts ws ws' : List Cond} {rm : Room} (n : Nat) (ht : ∀ w ∈ Ts, w.before args s = true) (hT : GoodIn Ts (wsV own index C y ws)) (hw : ws = Cond.codeWith y bytes maxL ret hh :: ws') (hrc : rm.cells = mc) (hrs : rm.slots = ms)
    (hd : y.cls = C ∧ y.cls ≠ "java/lang/invoke/MethodHandle" ∧ y.cls ≠ "java/lang/invoke/VarHandle" ∧ (parseMethodDescriptor y.desc).map (fun d => d.parameters.length) = some n) (hR : rm.frames + 1 ≤ R.frames ∧ 8 + (maxL + 11) + rm.locals ≤ R.locals) :
    vx_CVW R s args own C index y bytes maxL ret hh ws rm mc ms n := by
  obtain ⟨hC, hd⟩ := hd
  subst hC
  have ok : ∀ w ∈ wsV own index y.cls y ws, w.before args s = true := fun w h => ht w (hT w h).1
  have hG : GoodIn Ts ws := fun w h => hT w (by unfold wsV; exact List.mem_append_right _ h)
  have hc : Cond.codeWith y bytes maxL ret hh ∈ ws := by rw [hw]; exact List.mem_cons_self
  refine ⟨⟨hrc, hrs, hR.1, hR.2, pay_in ht hG, hc⟩, ht _ (hG _ hc).1, ok _ (by simp [wsV]), ⟨hd.1, hd.2.1⟩, fun sig h => ?_, ok _ (by simp [wsV]), ok _ (by simp [wsV]), ok _ (by simp [wsV])⟩
  have h2 := hd.2.2
  rw [h] at h2
  exact (Option.some.inj h2).symm
theorem vx_runVW {y : MethodName} {bytes cc : ByteArray} {maxL nL mc ms n index : Nat} {ret : Option FieldType} {hh : List (Nat × Nat × Nat × Nat)} {ws : List Cond} {rm : Room} {Pc : Array Value → State → Prop} {Qc : Array Value → State → Outcome → State → Prop} {free : Addr → Prop} {Ts : List Cond} {own C : String} {b : Addr} {As rest : List Value} {g : JFrame}
    (S : CallFix p m c cc nL s args Ts own) (hM : Met l y ws rm Pc Qc mc ms free) (cw : vx_CVW R s args own C index y bytes maxL ret hh ws rm mc ms n) (hp : PreV s H C b Pc As)
    (hg : g.method = m) (hn : As.length = n) (hsize : g.locals.size = nL) (hstack : g.stack = As.reverse ++ .ref b :: rest) (hW : 2 * g.monitorRoom + (rest.map fun v => v.category).sum ≤ 8) (hdg : decode cc g.pc = .ok (.invokevirtual index, 3)) (hf : cells + mc ≤ R.cells ∧ slots + ms ≤ R.slots) :
    va_Run p l e R s m args below meth c H locs cells slots mc ms g rest (Qc (Value.ref b :: As).toArray) free := by
  obtain ⟨⟨hrc, hrs, hfr, hlo, hws, hcw⟩, hcode, hini, hy, hlen, hl, hin, hse⟩ := cw
  have hK : Back l R p e below s args y 3 8 (PreOf R mc ms Pc) (PostOf Qc mc ms free) := va_backW (hh := hh) (bytes := bytes) (maxL := maxL) (ret := ret) hM hp.1 hrc hrs hfr hlo hws hcw (fun a' U hW => word_at hW (Or.inl (by first | rfl | simp [Cond.onTables, Cond.keeps, Cond.steady])) hini)
  obtain ⟨hx, hb, hml, ho, -⟩ := S
  obtain ⟨-, ⟨cellB, hcB, hoB, hclB⟩, hPc⟩ := hp
  intro T hT X
  obtain ⟨v, vm₁, ⟨U', l2, c2, s2⟩, hW₁, X', ⟨g', mk, t, L, e1, e2, hq, h1, hL, h2, h3⟩, st⟩ := vx_callVW X hx (C := C) (hh := hh) (bytes := bytes) (maxL := maxL) (ret := ret) ho hl hin hse hcode hy hK (by rw [hT]; exact hcB) hoB hclB hg (hsize.trans hml.symm) (argsL := As) (rest := rest) (fun sig h => hn.trans (hlen sig h)) hstack hW (by rw [hb]; exact hdg)
    (fun vm₁ hW₁ => ⟨hf.1, hf.2, hPc (T.setVm vm₁) hT hW₁⟩)
  dsimp only [Pt.U, Pt.locs, Pt.cells, Pt.slots] at X' e1 e2 h1 h2 h3 st
  subst h1; subst h2; subst h3
  exact ⟨v, (T.setVm vm₁).calling g' mk (Value.ref b :: As).toArray, t, U', L, hT, X', hL, e1, e2, hq, st⟩
section
variable {y : MethodName} {bytes cc : ByteArray} {maxL nL mc ms n index : Nat} {ret : Option FieldType} {ws : List Cond} {rm : Room} {Pc : Array Value → State → Prop} {Qc : Array Value → State → Outcome → State → Prop} {XC : String → State → State → Prop} {free : Addr → Prop} {Ts : List Cond} {own C : String} {b : Addr} {As rest : List Value} {g : JFrame}
theorem vx_runVX {hh : List (Nat × Nat × Nat × Nat)} (S : CallFix p m c cc nL s args Ts own) (hM : vx_Met l y ws rm Pc Qc XC mc ms free) (cw : vx_CVW R s args own C index y bytes maxL ret hh ws rm mc ms n) (hp : PreV s H C b Pc As)
    (hg : g.method = m) (hn : As.length = n) (hsize : g.locals.size = nL) (hstack : g.stack = As.reverse ++ .ref b :: rest) (hW : 2 * g.monitorRoom + (rest.map fun v => v.category).sum ≤ 8) (hdg : decode cc g.pc = .ok (.invokevirtual index, 3)) (hf : cells + mc ≤ R.cells ∧ slots + ms ≤ R.slots) :
    vx_Run p l e R s m args below meth c H locs cells slots mc ms g rest (Qc (Value.ref b :: As).toArray) XC free := by
  obtain ⟨⟨hrc, hrs, hfr, hlo, hws, hcw⟩, hcode, hini, hy, hlen, hl, hin, hse⟩ := cw
  have hK : vx_Back l R p e below s args y 3 8 (PreOf R mc ms Pc) (PostOf Qc mc ms free) (vx_Post XC mc ms free) := vx_backW (hh := hh) (bytes := bytes) (maxL := maxL) (ret := ret) hM hp.1 hrc hrs hfr hlo hws hcw (fun a' U hW => word_at hW (Or.inl (by first | rfl | simp [Cond.onTables, Cond.keeps, Cond.steady])) hini)
  obtain ⟨hx, hb, hml, ho, -⟩ := S
  obtain ⟨-, ⟨cellB, hcB, hoB, hclB⟩, hPc⟩ := hp
  intro T hT X
  rcases vx_callVX X hx (C := C) (hh := hh) (bytes := bytes) (maxL := maxL) (ret := ret) ho hl hin hse hcode hy hK (by rw [hT]; exact hcB) hoB hclB hg (hsize.trans hml.symm) (argsL := As) (rest := rest) (fun sig h => hn.trans (hlen sig h)) hstack hW (by rw [hb]; exact hdg)
    (fun vm₁ hW₁ => ⟨hf.1, hf.2, hPc (T.setVm vm₁) hT hW₁⟩) with ⟨v, vm₁, ⟨U', l2, c2, s2⟩, hW₁, X', ⟨g', mk, t, L, e1, e2, hq, h1, hL, h2, h3⟩, st⟩ | ⟨q, vm₁, ⟨U', l2, c2, s2⟩, hW₁, X', ⟨g', mk, t, L, E, ce, e1, e2, hq, hce, hcv, hcl, h1, hL, h2, h3⟩, st⟩
  · dsimp only [Pt.U, Pt.locs, Pt.cells, Pt.slots] at X' e1 e2 h1 h2 h3 st
    subst h1; subst h2; subst h3
    exact Or.inl ⟨v, (T.setVm vm₁).calling g' mk (Value.ref b :: As).toArray, t, U', L, hT, X', hL, e1, e2, hq, st⟩
  · dsimp only [Pt.U, Pt.locs, Pt.cells, Pt.slots] at X' e1 e2 h1 h2 h3 st hcl
    subst h1; subst h2; subst h3
    exact Or.inr ⟨q, (T.setVm vm₁).calling g' mk (Value.ref b :: As).toArray, t, U', L, E, ce, hT, X', hL, e1, e2, hq, hce, hcv, vx_cls hW₁ hcl, st⟩
theorem vx_runSX {hh : List (Nat × Nat × Nat × Nat)} (S : CallFix p m c cc nL s args Ts own) (hM : vx_Met l y ws rm Pc Qc XC mc ms free) (cw : vx_CSW R s args own index y bytes maxL ret hh ws rm mc ms n) (hp : PreS s H Pc As)
    (hg : g.method = m) (hn : As.length = n) (hsize : g.locals.size = nL) (hstack : g.stack = As.reverse ++ rest) (hW : 2 * g.monitorRoom + (rest.map fun v => v.category).sum ≤ 8) (hdg : decode cc g.pc = .ok (.invokestatic index, 3)) (hf : cells + mc ≤ R.cells ∧ slots + ms ≤ R.slots) :
    vx_Run p l e R s m args below meth c H locs cells slots mc ms g rest (Qc As.toArray) XC free := by
  obtain ⟨⟨hrc, hrs, hfr, hlo, hws, hcw⟩, hcode, hini, hy, hlen, hl, hstt⟩ := cw
  have hK : vx_Back l R p e below s args y 3 8 (PreOf R mc ms Pc) (PostOf Qc mc ms free) (vx_Post XC mc ms free) := vx_backW (hh := hh) (bytes := bytes) (maxL := maxL) (ret := ret) hM hp.1 hrc hrs hfr hlo hws hcw (fun a' U hW => word_at hW (Or.inl (by first | rfl | simp [Cond.onTables, Cond.keeps, Cond.steady])) hini)
  obtain ⟨hx, hb, hml, ho, -⟩ := S
  intro T hT X
  rcases vx_callSX X hx (hh := hh) (bytes := bytes) (maxL := maxL) (ret := ret) ho hl hstt hini hcode hy hK hg (hsize.trans hml.symm) (argsL := As) (rest := rest) (fun sig h => hn.trans (hlen sig h)) hstack hW (by rw [hb]; exact hdg)
    (fun vm₁ hW₁ => ⟨hf.1, hf.2, hp.2 (T.setVm vm₁) hT hW₁⟩) with ⟨v, vm₁, ⟨U', l2, c2, s2⟩, hW₁, X', ⟨g', mk, t, L, e1, e2, hq, h1, hL, h2, h3⟩, st⟩ | ⟨q, vm₁, ⟨U', l2, c2, s2⟩, hW₁, X', ⟨g', mk, t, L, E, ce, e1, e2, hq, hce, hcv, hcl, h1, hL, h2, h3⟩, st⟩
  · dsimp only [Pt.U, Pt.locs, Pt.cells, Pt.slots] at X' e1 e2 h1 h2 h3 st
    subst h1; subst h2; subst h3
    exact Or.inl ⟨v, (T.setVm vm₁).calling g' mk As.toArray, t, U', L, hT, X', hL, e1, e2, hq, st⟩
  · dsimp only [Pt.U, Pt.locs, Pt.cells, Pt.slots] at X' e1 e2 h1 h2 h3 st hcl
    subst h1; subst h2; subst h3
    exact Or.inr ⟨q, (T.setVm vm₁).calling g' mk As.toArray, t, U', L, E, ce, hT, X', hL, e1, e2, hq, hce, hcv, vx_cls hW₁ hcl, st⟩
end
end VXH
theorem vx_ofWH {l : Launch} {y : MethodName} {ws ws' : List Cond} {rm : Room} {Pc : Array Value → State → Prop} {Qc : Array Value → State → Outcome → State → Prop} {XC : String → State → State → Prop} {mc ms : Nat} {free : Addr → Prop} {cc : ByteArray} {maxL : Nat} {ret : Option FieldType} {hh : List (Nat × Nat × Nat × Nat)}
    (hy : plainName y.cls = true) (hw : ws = Cond.codeWith y cc maxL ret hh :: ws')
    (body : ∀ p e s m args below meth c s₁, BodyLoose p l y (headSpec ws rm) cc maxL ret e s m args below meth c s₁ → c.maxLocals = maxL → Pc args s →
      W p l e (headSpec ws rm).room s m args below meth c s.heap [] 0 0 (vx_MQ below Qc XC args s mc ms free) (entryFrame m args maxL)) : vx_Met l y ws rm Pc Qc XC mc ms free := by
  refine MetFree.of_bodyS (code := cc) (maxLocals := maxL) (ret := ret) hy ?_ ?_
  · intro args s m h hn
    obtain ⟨m9, meth, c, hn9, h1, h2, h3, h4, -, h5, h6, -⟩ := Cond.codeWith_spec (atoms_spec (ws := ws) h _ (by rw [hw]; exact List.mem_cons_self))
    cases hn.symm.trans hn9
    exact ⟨meth, c, h1, h2, h3, h4, h5, h6⟩
  · intro p e s m args below meth c s₁ B hml hP _
    have hh0 : s₁.heap = s.heap := by rw [B.state]; rfl
    obtain ⟨t, a1, o, b1, b2, b3⟩ := body p e s m args below meth c s₁ B hml hP s₁ hh0 (Stand.of_body B)
    exact ⟨t, o, a1, b1, b2, b3⟩
/-! ===== END ===== -/
end
section
-- ===== PART A: goes FIRST, ahead of the names: the tables' words, and 'selects' of the private methods out of them =====
/-- a private method of a class that the tables say can be made, by its rows of tables_1 -/
def lw_okq (q : MethodName × Nat) : Prop := (q.1.cls ≠ "java/lang/invoke/MethodHandle" ∧ q.1.cls ≠ "java/lang/invoke/VarHandle") ∧ Cond.instantiable q.1.cls q.2 ∈ tables_1 ∧ Cond.privateMethod q.1 ∈ tables_1 ∧ Cond.instanceMethod q.1 ∈ tables_1
theorem lw_p0 : lw_okq (⟨"Momentdesk", "areMomentsSound", "()Z"⟩, 8) := ⟨⟨by decide +kernel, by decide +kernel⟩, List.mem_of_getElem? (i := 25) (by decide +kernel), List.mem_of_getElem? (i := 88) (by decide +kernel), List.mem_of_getElem? (i := 89) (by decide +kernel)⟩
theorem lw_p1 : lw_okq (⟨"Momentdesk", "areDatesToldAnewSound", "()Z"⟩, 8) := ⟨⟨by decide +kernel, by decide +kernel⟩, List.mem_of_getElem? (i := 25) (by decide +kernel), List.mem_of_getElem? (i := 116) (by decide +kernel), List.mem_of_getElem? (i := 117) (by decide +kernel)⟩
theorem lw_p2 : lw_okq (⟨"java/lang/Throwable", "fillInStackTrace", "(I)Ljava/lang/Throwable;"⟩, 6) := ⟨⟨by decide +kernel, by decide +kernel⟩, List.mem_of_getElem? (i := 160) (by decide +kernel), List.mem_of_getElem? (i := 158) (by decide +kernel), List.mem_of_getElem? (i := 159) (by decide +kernel)⟩
theorem lw_p3 : lw_okq (⟨"Momentdesk", "isToldAnewSound", "(LMomentdesk$Local;I)Z"⟩, 8) := ⟨⟨by decide +kernel, by decide +kernel⟩, List.mem_of_getElem? (i := 25) (by decide +kernel), List.mem_of_getElem? (i := 190) (by decide +kernel), List.mem_of_getElem? (i := 191) (by decide +kernel)⟩
theorem lw_p4 : lw_okq (⟨"Momentdesk", "arePairsSound", "()Z"⟩, 8) := ⟨⟨by decide +kernel, by decide +kernel⟩, List.mem_of_getElem? (i := 25) (by decide +kernel), List.mem_of_getElem? (i := 208) (by decide +kernel), List.mem_of_getElem? (i := 209) (by decide +kernel)⟩
theorem lw_p5 : lw_okq (⟨"Momentdesk", "areStrikesSound", "()Z"⟩, 8) := ⟨⟨by decide +kernel, by decide +kernel⟩, List.mem_of_getElem? (i := 25) (by decide +kernel), List.mem_of_getElem? (i := 230) (by decide +kernel), List.mem_of_getElem? (i := 231) (by decide +kernel)⟩
theorem lw_p6 : lw_okq (⟨"Momentdesk", "withOffsets", "(J)J"⟩, 8) := ⟨⟨by decide +kernel, by decide +kernel⟩, List.mem_of_getElem? (i := 25) (by decide +kernel), List.mem_of_getElem? (i := 254) (by decide +kernel), List.mem_of_getElem? (i := 255) (by decide +kernel)⟩
theorem lw_p7 : lw_okq (⟨"Momentdesk", "withMoments", "(J)J"⟩, 8) := ⟨⟨by decide +kernel, by decide +kernel⟩, List.mem_of_getElem? (i := 25) (by decide +kernel), List.mem_of_getElem? (i := 269) (by decide +kernel), List.mem_of_getElem? (i := 270) (by decide +kernel)⟩
theorem lw_p8 : lw_okq (⟨"Momentdesk", "withDates", "(J)J"⟩, 8) := ⟨⟨by decide +kernel, by decide +kernel⟩, List.mem_of_getElem? (i := 25) (by decide +kernel), List.mem_of_getElem? (i := 277) (by decide +kernel), List.mem_of_getElem? (i := 278) (by decide +kernel)⟩
theorem lw_p9 : lw_okq (⟨"Momentdesk", "withClocks", "(J)J"⟩, 8) := ⟨⟨by decide +kernel, by decide +kernel⟩, List.mem_of_getElem? (i := 25) (by decide +kernel), List.mem_of_getElem? (i := 329) (by decide +kernel), List.mem_of_getElem? (i := 330) (by decide +kernel)⟩
theorem lw_p10 : lw_okq (⟨"Momentdesk", "withDatePairs", "(J)J"⟩, 8) := ⟨⟨by decide +kernel, by decide +kernel⟩, List.mem_of_getElem? (i := 25) (by decide +kernel), List.mem_of_getElem? (i := 336) (by decide +kernel), List.mem_of_getElem? (i := 337) (by decide +kernel)⟩
theorem lw_p11 : lw_okq (⟨"Momentdesk", "withClockPairs", "(J)J"⟩, 8) := ⟨⟨by decide +kernel, by decide +kernel⟩, List.mem_of_getElem? (i := 25) (by decide +kernel), List.mem_of_getElem? (i := 340) (by decide +kernel), List.mem_of_getElem? (i := 341) (by decide +kernel)⟩
theorem lw_p12 : lw_okq (⟨"Momentdesk", "withHouse", "(J)J"⟩, 8) := ⟨⟨by decide +kernel, by decide +kernel⟩, List.mem_of_getElem? (i := 25) (by decide +kernel), List.mem_of_getElem? (i := 344) (by decide +kernel), List.mem_of_getElem? (i := 345) (by decide +kernel)⟩
theorem lw_p13 : lw_okq (⟨"Momentdesk", "firstDated", "()I"⟩, 8) := ⟨⟨by decide +kernel, by decide +kernel⟩, List.mem_of_getElem? (i := 25) (by decide +kernel), List.mem_of_getElem? (i := 371) (by decide +kernel), List.mem_of_getElem? (i := 372) (by decide +kernel)⟩
theorem lw_p14 : lw_okq (⟨"Momentdesk", "firstMoment", "()I"⟩, 8) := ⟨⟨by decide +kernel, by decide +kernel⟩, List.mem_of_getElem? (i := 25) (by decide +kernel), List.mem_of_getElem? (i := 375) (by decide +kernel), List.mem_of_getElem? (i := 376) (by decide +kernel)⟩
theorem lw_p15 : lw_okq (⟨"Momentdesk", "refused", "()I"⟩, 8) := ⟨⟨by decide +kernel, by decide +kernel⟩, List.mem_of_getElem? (i := 25) (by decide +kernel), List.mem_of_getElem? (i := 415) (by decide +kernel), List.mem_of_getElem? (i := 416) (by decide +kernel)⟩
def lw_privs_1 : List (MethodName × Nat) := [(⟨"Momentdesk", "areMomentsSound", "()Z"⟩, 8), (⟨"Momentdesk", "areDatesToldAnewSound", "()Z"⟩, 8), (⟨"java/lang/Throwable", "fillInStackTrace", "(I)Ljava/lang/Throwable;"⟩, 6), (⟨"Momentdesk", "isToldAnewSound", "(LMomentdesk$Local;I)Z"⟩, 8), (⟨"Momentdesk", "arePairsSound", "()Z"⟩, 8), (⟨"Momentdesk", "areStrikesSound", "()Z"⟩, 8), (⟨"Momentdesk", "withOffsets", "(J)J"⟩, 8), (⟨"Momentdesk", "withMoments", "(J)J"⟩, 8), (⟨"Momentdesk", "withDates", "(J)J"⟩, 8), (⟨"Momentdesk", "withClocks", "(J)J"⟩, 8), (⟨"Momentdesk", "withDatePairs", "(J)J"⟩, 8), (⟨"Momentdesk", "withClockPairs", "(J)J"⟩, 8), (⟨"Momentdesk", "withHouse", "(J)J"⟩, 8), (⟨"Momentdesk", "firstDated", "()I"⟩, 8), (⟨"Momentdesk", "firstMoment", "()I"⟩, 8), (⟨"Momentdesk", "refused", "()I"⟩, 8)]
theorem lw_r1 : ∀ q ∈ lw_privs_1, lw_okq q := List.forall_mem_cons.mpr ⟨lw_p0, List.forall_mem_cons.mpr ⟨lw_p1, List.forall_mem_cons.mpr ⟨lw_p2, List.forall_mem_cons.mpr ⟨lw_p3, List.forall_mem_cons.mpr ⟨lw_p4, List.forall_mem_cons.mpr ⟨lw_p5, List.forall_mem_cons.mpr ⟨lw_p6, List.forall_mem_cons.mpr ⟨lw_p7, List.forall_mem_cons.mpr ⟨lw_p8, List.forall_mem_cons.mpr ⟨lw_p9, List.forall_mem_cons.mpr ⟨lw_p10, List.forall_mem_cons.mpr ⟨lw_p11, List.forall_mem_cons.mpr ⟨lw_p12, List.forall_mem_cons.mpr ⟨lw_p13, List.forall_mem_cons.mpr ⟨lw_p14, List.forall_mem_cons.mpr ⟨lw_p15, fun _ h => absurd h List.not_mem_nil⟩⟩⟩⟩⟩⟩⟩⟩⟩⟩⟩⟩⟩⟩⟩⟩
theorem lw_p16 : lw_okq (⟨"Momentdesk", "putNumber", "(IJ)I"⟩, 8) := ⟨⟨by decide +kernel, by decide +kernel⟩, List.mem_of_getElem? (i := 25) (by decide +kernel), List.mem_of_getElem? (i := 440) (by decide +kernel), List.mem_of_getElem? (i := 441) (by decide +kernel)⟩
theorem lw_p17 : lw_okq (⟨"Momentdesk", "putLocal", "(LMomentdesk$Local;JII)I"⟩, 8) := ⟨⟨by decide +kernel, by decide +kernel⟩, List.mem_of_getElem? (i := 25) (by decide +kernel), List.mem_of_getElem? (i := 830) (by decide +kernel), List.mem_of_getElem? (i := 831) (by decide +kernel)⟩
theorem lw_p18 : lw_okq (⟨"Momentdesk", "putMonths", "(LMomentdesk$Local;J)I"⟩, 8) := ⟨⟨by decide +kernel, by decide +kernel⟩, List.mem_of_getElem? (i := 25) (by decide +kernel), List.mem_of_getElem? (i := 856) (by decide +kernel), List.mem_of_getElem? (i := 857) (by decide +kernel)⟩
theorem lw_p19 : lw_okq (⟨"Momentdesk", "putDay", "(LMomentdesk$Local;I)I"⟩, 8) := ⟨⟨by decide +kernel, by decide +kernel⟩, List.mem_of_getElem? (i := 25) (by decide +kernel), List.mem_of_getElem? (i := 862) (by decide +kernel), List.mem_of_getElem? (i := 863) (by decide +kernel)⟩
theorem lw_p20 : lw_okq (⟨"Momentdesk", "setOfDay", "(LMomentdesk$Local;II)I"⟩, 8) := ⟨⟨by decide +kernel, by decide +kernel⟩, List.mem_of_getElem? (i := 25) (by decide +kernel), List.mem_of_getElem? (i := 882) (by decide +kernel), List.mem_of_getElem? (i := 883) (by decide +kernel)⟩
theorem lw_p21 : lw_okq (⟨"Momentdesk", "setOfTime", "(LMomentdesk$Local;II)I"⟩, 8) := ⟨⟨by decide +kernel, by decide +kernel⟩, List.mem_of_getElem? (i := 25) (by decide +kernel), List.mem_of_getElem? (i := 890) (by decide +kernel), List.mem_of_getElem? (i := 891) (by decide +kernel)⟩
theorem lw_p22 : lw_okq (⟨"Momentdesk", "setPart", "(LMomentdesk$Local;IIIJ)I"⟩, 8) := ⟨⟨by decide +kernel, by decide +kernel⟩, List.mem_of_getElem? (i := 25) (by decide +kernel), List.mem_of_getElem? (i := 894) (by decide +kernel), List.mem_of_getElem? (i := 895) (by decide +kernel)⟩
theorem lw_p23 : lw_okq (⟨"Momentdesk", "putClock", "(LMomentdesk$Local;JII)I"⟩, 8) := ⟨⟨by decide +kernel, by decide +kernel⟩, List.mem_of_getElem? (i := 25) (by decide +kernel), List.mem_of_getElem? (i := 944) (by decide +kernel), List.mem_of_getElem? (i := 945) (by decide +kernel)⟩
theorem lw_p24 : lw_okq (⟨"MomentdeskModel", "isStopped", "(ZZ)Z"⟩, 9) := ⟨⟨by decide +kernel, by decide +kernel⟩, List.mem_of_getElem? (i := 1008) (by decide +kernel), List.mem_of_getElem? (i := 1059) (by decide +kernel), List.mem_of_getElem? (i := 1060) (by decide +kernel)⟩
theorem lw_p25 : lw_okq (⟨"MomentdeskModel", "no", "()I"⟩, 9) := ⟨⟨by decide +kernel, by decide +kernel⟩, List.mem_of_getElem? (i := 1008) (by decide +kernel), List.mem_of_getElem? (i := 1071) (by decide +kernel), List.mem_of_getElem? (i := 1072) (by decide +kernel)⟩
theorem lw_p26 : lw_okq (⟨"MomentdeskModel", "become", "(IJ)I"⟩, 9) := ⟨⟨by decide +kernel, by decide +kernel⟩, List.mem_of_getElem? (i := 1008) (by decide +kernel), List.mem_of_getElem? (i := 1094) (by decide +kernel), List.mem_of_getElem? (i := 1095) (by decide +kernel)⟩
theorem lw_p27 : lw_okq (⟨"MomentdeskModel", "number", "(I)J"⟩, 9) := ⟨⟨by decide +kernel, by decide +kernel⟩, List.mem_of_getElem? (i := 1008) (by decide +kernel), List.mem_of_getElem? (i := 1121) (by decide +kernel), List.mem_of_getElem? (i := 1122) (by decide +kernel)⟩
theorem lw_p28 : lw_okq (⟨"MomentdeskModel", "put", "(IIIII)I"⟩, 9) := ⟨⟨by decide +kernel, by decide +kernel⟩, List.mem_of_getElem? (i := 1008) (by decide +kernel), List.mem_of_getElem? (i := 1209) (by decide +kernel), List.mem_of_getElem? (i := 1210) (by decide +kernel)⟩
theorem lw_p29 : lw_okq (⟨"MomentdeskModel", "put", "(IJJII)I"⟩, 9) := ⟨⟨by decide +kernel, by decide +kernel⟩, List.mem_of_getElem? (i := 1008) (by decide +kernel), List.mem_of_getElem? (i := 1217) (by decide +kernel), List.mem_of_getElem? (i := 1218) (by decide +kernel)⟩
theorem lw_p30 : lw_okq (⟨"MomentdeskModel", "moveMonths", "(IJ)I"⟩, 9) := ⟨⟨by decide +kernel, by decide +kernel⟩, List.mem_of_getElem? (i := 1008) (by decide +kernel), List.mem_of_getElem? (i := 1229) (by decide +kernel), List.mem_of_getElem? (i := 1230) (by decide +kernel)⟩
theorem lw_p31 : lw_okq (⟨"MomentdeskModel", "putDay", "(IIII)I"⟩, 9) := ⟨⟨by decide +kernel, by decide +kernel⟩, List.mem_of_getElem? (i := 1008) (by decide +kernel), List.mem_of_getElem? (i := 1239) (by decide +kernel), List.mem_of_getElem? (i := 1240) (by decide +kernel)⟩
def lw_privs_2 : List (MethodName × Nat) := [(⟨"Momentdesk", "putNumber", "(IJ)I"⟩, 8), (⟨"Momentdesk", "putLocal", "(LMomentdesk$Local;JII)I"⟩, 8), (⟨"Momentdesk", "putMonths", "(LMomentdesk$Local;J)I"⟩, 8), (⟨"Momentdesk", "putDay", "(LMomentdesk$Local;I)I"⟩, 8), (⟨"Momentdesk", "setOfDay", "(LMomentdesk$Local;II)I"⟩, 8), (⟨"Momentdesk", "setOfTime", "(LMomentdesk$Local;II)I"⟩, 8), (⟨"Momentdesk", "setPart", "(LMomentdesk$Local;IIIJ)I"⟩, 8), (⟨"Momentdesk", "putClock", "(LMomentdesk$Local;JII)I"⟩, 8), (⟨"MomentdeskModel", "isStopped", "(ZZ)Z"⟩, 9), (⟨"MomentdeskModel", "no", "()I"⟩, 9), (⟨"MomentdeskModel", "become", "(IJ)I"⟩, 9), (⟨"MomentdeskModel", "number", "(I)J"⟩, 9), (⟨"MomentdeskModel", "put", "(IIIII)I"⟩, 9), (⟨"MomentdeskModel", "put", "(IJJII)I"⟩, 9), (⟨"MomentdeskModel", "moveMonths", "(IJ)I"⟩, 9), (⟨"MomentdeskModel", "putDay", "(IIII)I"⟩, 9)]
theorem lw_r2 : ∀ q ∈ lw_privs_2, lw_okq q := List.forall_mem_cons.mpr ⟨lw_p16, List.forall_mem_cons.mpr ⟨lw_p17, List.forall_mem_cons.mpr ⟨lw_p18, List.forall_mem_cons.mpr ⟨lw_p19, List.forall_mem_cons.mpr ⟨lw_p20, List.forall_mem_cons.mpr ⟨lw_p21, List.forall_mem_cons.mpr ⟨lw_p22, List.forall_mem_cons.mpr ⟨lw_p23, List.forall_mem_cons.mpr ⟨lw_p24, List.forall_mem_cons.mpr ⟨lw_p25, List.forall_mem_cons.mpr ⟨lw_p26, List.forall_mem_cons.mpr ⟨lw_p27, List.forall_mem_cons.mpr ⟨lw_p28, List.forall_mem_cons.mpr ⟨lw_p29, List.forall_mem_cons.mpr ⟨lw_p30, List.forall_mem_cons.mpr ⟨lw_p31, fun _ h => absurd h List.not_mem_nil⟩⟩⟩⟩⟩⟩⟩⟩⟩⟩⟩⟩⟩⟩⟩⟩
theorem lw_p32 : lw_okq (⟨"MomentdeskModel", "told", "(II)I"⟩, 9) := ⟨⟨by decide +kernel, by decide +kernel⟩, List.mem_of_getElem? (i := 1008) (by decide +kernel), List.mem_of_getElem? (i := 1264) (by decide +kernel), List.mem_of_getElem? (i := 1265) (by decide +kernel)⟩
theorem lw_p33 : lw_okq (⟨"MomentdeskModel", "ordered", "(II)I"⟩, 9) := ⟨⟨by decide +kernel, by decide +kernel⟩, List.mem_of_getElem? (i := 1008) (by decide +kernel), List.mem_of_getElem? (i := 1272) (by decide +kernel), List.mem_of_getElem? (i := 1273) (by decide +kernel)⟩
theorem lw_p34 : lw_okq (⟨"MomentdeskModel", "is", "(III)Z"⟩, 9) := ⟨⟨by decide +kernel, by decide +kernel⟩, List.mem_of_getElem? (i := 1008) (by decide +kernel), List.mem_of_getElem? (i := 1280) (by decide +kernel), List.mem_of_getElem? (i := 1281) (by decide +kernel)⟩
theorem lw_p35 : lw_okq (⟨"MomentdeskModel", "turn", "(IJII)I"⟩, 9) := ⟨⟨by decide +kernel, by decide +kernel⟩, List.mem_of_getElem? (i := 1008) (by decide +kernel), List.mem_of_getElem? (i := 1291) (by decide +kernel), List.mem_of_getElem? (i := 1292) (by decide +kernel)⟩
theorem lw_p36 : lw_okq (⟨"MomentdeskModel", "ofSecond", "(I)I"⟩, 9) := ⟨⟨by decide +kernel, by decide +kernel⟩, List.mem_of_getElem? (i := 1008) (by decide +kernel), List.mem_of_getElem? (i := 1295) (by decide +kernel), List.mem_of_getElem? (i := 1296) (by decide +kernel)⟩
theorem lw_p37 : lw_okq (⟨"MomentdeskModel", "clockTold", "(II)I"⟩, 9) := ⟨⟨by decide +kernel, by decide +kernel⟩, List.mem_of_getElem? (i := 1008) (by decide +kernel), List.mem_of_getElem? (i := 1325) (by decide +kernel), List.mem_of_getElem? (i := 1326) (by decide +kernel)⟩
theorem lw_p38 : lw_okq (⟨"MomentdeskModel", "houseTold", "(I)I"⟩, 9) := ⟨⟨by decide +kernel, by decide +kernel⟩, List.mem_of_getElem? (i := 1008) (by decide +kernel), List.mem_of_getElem? (i := 1345) (by decide +kernel), List.mem_of_getElem? (i := 1346) (by decide +kernel)⟩
def lw_privs_3 : List (MethodName × Nat) := [(⟨"MomentdeskModel", "told", "(II)I"⟩, 9), (⟨"MomentdeskModel", "ordered", "(II)I"⟩, 9), (⟨"MomentdeskModel", "is", "(III)Z"⟩, 9), (⟨"MomentdeskModel", "turn", "(IJII)I"⟩, 9), (⟨"MomentdeskModel", "ofSecond", "(I)I"⟩, 9), (⟨"MomentdeskModel", "clockTold", "(II)I"⟩, 9), (⟨"MomentdeskModel", "houseTold", "(I)I"⟩, 9)]
theorem lw_r3 : ∀ q ∈ lw_privs_3, lw_okq q := List.forall_mem_cons.mpr ⟨lw_p32, List.forall_mem_cons.mpr ⟨lw_p33, List.forall_mem_cons.mpr ⟨lw_p34, List.forall_mem_cons.mpr ⟨lw_p35, List.forall_mem_cons.mpr ⟨lw_p36, List.forall_mem_cons.mpr ⟨lw_p37, List.forall_mem_cons.mpr ⟨lw_p38, fun _ h => absurd h List.not_mem_nil⟩⟩⟩⟩⟩⟩⟩
def lw_privs : List (MethodName × Nat) := lw_privs_1 ++ (lw_privs_2 ++ (lw_privs_3))
def lw_tbl : List Cond := k2_sels lw_privs ++ tables_1
theorem lw_privs_ok : ∀ q ∈ lw_privs, lw_okq q := by
  show ∀ q ∈ lw_privs_1 ++ (lw_privs_2 ++ (lw_privs_3)), lw_okq q
  exact List.forall_mem_append.mpr ⟨lw_r1, List.forall_mem_append.mpr ⟨lw_r2, lw_r3⟩⟩
def RX0 : String := "Momentdesk$Calendar"
def TX0 : u_T := fun k => match k with
  | _ => ("", "", "", false)
def tyX0 : Nat → FieldType := fun k => match k with
  | _ => .int
abbrev wsX00 : List Cond := u_ws RX0 TX0 0
theorem nmX0 : ∀ a, a < 0 → ∀ b, b < 0 → a ≠ b → (TX0 a).2.1 ≠ (TX0 b).2.1 := by decide +kernel
theorem tyX0_ok : ∀ k, k < 0 → parseFieldDescriptor (TX0 k).2.2.1 = some (tyX0 k) := by decide +kernel
abbrev cX0_isLeap : ByteArray := prog_2_method_2_code
def yX0_isLeap : MethodName := ⟨RX0, "isLeap", "(I)Z"⟩
abbrev cX0_lengthOfYear : ByteArray := prog_2_method_3_code
def yX0_lengthOfYear : MethodName := ⟨RX0, "lengthOfYear", "(I)I"⟩
abbrev cX0_lengthOfMonth : ByteArray := prog_2_method_4_code
def yX0_lengthOfMonth : MethodName := ⟨RX0, "lengthOfMonth", "(II)I"⟩
abbrev cX0_isDay : ByteArray := prog_2_method_5_code
def yX0_isDay : MethodName := ⟨RX0, "isDay", "(III)Z"⟩
abbrev cX0_firstDayOf : ByteArray := prog_2_method_6_code
def yX0_firstDayOf : MethodName := ⟨RX0, "firstDayOf", "(I)I"⟩
abbrev cX0_daysBeforeMonth : ByteArray := prog_2_method_7_code
def yX0_daysBeforeMonth : MethodName := ⟨RX0, "daysBeforeMonth", "(II)I"⟩
abbrev cX0_dayOf : ByteArray := prog_2_method_8_code
def yX0_dayOf : MethodName := ⟨RX0, "dayOf", "(III)I"⟩
abbrev cX0_yearOf : ByteArray := prog_2_method_9_code
def yX0_yearOf : MethodName := ⟨RX0, "yearOf", "(I)I"⟩
abbrev cX0_dayOfYear : ByteArray := prog_2_method_10_code
def yX0_dayOfYear : MethodName := ⟨RX0, "dayOfYear", "(I)I"⟩
abbrev cX0_monthOf : ByteArray := prog_2_method_11_code
def yX0_monthOf : MethodName := ⟨RX0, "monthOf", "(I)I"⟩
abbrev cX0_dayOfMonth : ByteArray := prog_2_method_12_code
def yX0_dayOfMonth : MethodName := ⟨RX0, "dayOfMonth", "(I)I"⟩
abbrev cX0_dayOfWeek : ByteArray := prog_2_method_13_code
def yX0_dayOfWeek : MethodName := ⟨RX0, "dayOfWeek", "(I)I"⟩
def RX1 : String := "Momentdesk$Local"
def TX1 : u_T := fun k => match k with
  | 0 => ("Momentdesk$Local", "second", "J", false)
  | 1 => ("Momentdesk$Local", "nano", "I", false)
  | _ => ("Momentdesk$Local", "offset", "I", false)
def tyX1 : Nat → FieldType := fun k => match k with
  | 0 => .long
  | 1 => .int
  | _ => .int
abbrev wsX10 : List Cond := u_ws RX1 TX1 3
theorem nmX1 : ∀ a, a < 3 → ∀ b, b < 3 → a ≠ b → (TX1 a).2.1 ≠ (TX1 b).2.1 := by decide +kernel
theorem tyX1_ok : ∀ k, k < 3 → parseFieldDescriptor (TX1 k).2.2.1 = some (tyX1 k) := by decide +kernel
abbrev cX1_init : ByteArray := prog_3_method_1_code
def yX1_init : MethodName := ⟨RX1, "<init>", "()V"⟩
abbrev cX1_tell : ByteArray := prog_3_method_2_code
def yX1_tell : MethodName := ⟨RX1, "tell", "(JII)V"⟩
abbrev cX1_day : ByteArray := prog_3_method_3_code
def yX1_day : MethodName := ⟨RX1, "day", "()I"⟩
abbrev cX1_beginOfDay : ByteArray := prog_3_method_4_code
def yX1_beginOfDay : MethodName := ⟨RX1, "beginOfDay", "()J"⟩
abbrev cX1_months : ByteArray := prog_3_method_5_code
def yX1_months : MethodName := ⟨RX1, "months", "()J"⟩
abbrev cX1_secondOfDay : ByteArray := prog_3_method_6_code
def yX1_secondOfDay : MethodName := ⟨RX1, "secondOfDay", "()I"⟩
abbrev cX1_hour : ByteArray := prog_3_method_7_code
def yX1_hour : MethodName := ⟨RX1, "hour", "()I"⟩
abbrev cX1_minute : ByteArray := prog_3_method_8_code
def yX1_minute : MethodName := ⟨RX1, "minute", "()I"⟩
abbrev cX1_secondOfMinute : ByteArray := prog_3_method_9_code
def yX1_secondOfMinute : MethodName := ⟨RX1, "secondOfMinute", "()I"⟩
abbrev cX1_momentSecond : ByteArray := prog_3_method_10_code
def yX1_momentSecond : MethodName := ⟨RX1, "momentSecond", "()J"⟩
abbrev cX1_isAhead : ByteArray := prog_3_method_11_code
def yX1_isAhead : MethodName := ⟨RX1, "isAhead", "(LMomentdesk$Local;)Z"⟩
abbrev cX1_isAlike : ByteArray := prog_3_method_12_code
def yX1_isAlike : MethodName := ⟨RX1, "isAlike", "(LMomentdesk$Local;)Z"⟩
abbrev cX1_isSame : ByteArray := prog_3_method_13_code
def yX1_isSame : MethodName := ⟨RX1, "isSame", "(LMomentdesk$Local;)Z"⟩
abbrev cX1_momentOrder : ByteArray := prog_3_method_14_code
def yX1_momentOrder : MethodName := ⟨RX1, "momentOrder", "(LMomentdesk$Local;)I"⟩
abbrev cX1_orderTo : ByteArray := prog_3_method_15_code
def yX1_orderTo : MethodName := ⟨RX1, "orderTo", "(LMomentdesk$Local;)I"⟩
def RX2 : String := "Momentdesk"
def TX2 : u_T := fun k => match k with
  | 0 => ("Momentdesk", "offsets", "[I", true)
  | 1 => ("Momentdesk", "numbers", "[J", true)
  | 2 => ("Momentdesk", "dates", "[LMomentdesk$Local;", true)
  | 3 => ("Momentdesk", "clocks", "[LMomentdesk$Local;", true)
  | 4 => ("Momentdesk", "triedDated", "LMomentdesk$Local;", true)
  | 5 => ("Momentdesk", "triedClock", "LMomentdesk$Local;", true)
  | 6 => ("Momentdesk", "knocks", "I", false)
  | _ => ("Momentdesk", "refusals", "I", false)
def tyX2 : Nat → FieldType := fun k => match k with
  | 0 => .array .int
  | 1 => .array .long
  | 2 => .array (.object "Momentdesk$Local")
  | 3 => .array (.object "Momentdesk$Local")
  | 4 => .object "Momentdesk$Local"
  | 5 => .object "Momentdesk$Local"
  | 6 => .int
  | _ => .int
abbrev wsX20 : List Cond := u_ws RX2 TX2 8
theorem nmX2 : ∀ a, a < 8 → ∀ b, b < 8 → a ≠ b → (TX2 a).2.1 ≠ (TX2 b).2.1 := by decide +kernel
theorem tyX2_ok : ∀ k, k < 8 → parseFieldDescriptor (TX2 k).2.2.1 = some (tyX2 k) := by decide +kernel
abbrev cX2_init : ByteArray := prog_1_method_1_code
def yX2_init : MethodName := ⟨RX2, "<init>", "()V"⟩
abbrev cX2_offset : ByteArray := prog_1_method_2_code
def yX2_offset : MethodName := ⟨RX2, "offset", "(II)I"⟩
abbrev cX2_offsetOf : ByteArray := prog_1_method_3_code
def yX2_offsetOf : MethodName := ⟨RX2, "offsetOf", "(IIII)I"⟩
abbrev cX2_seconds : ByteArray := prog_1_method_4_code
def yX2_seconds : MethodName := ⟨RX2, "seconds", "(I)I"⟩
abbrev cX2_orderOffset : ByteArray := prog_1_method_5_code
def yX2_orderOffset : MethodName := ⟨RX2, "orderOffset", "(II)I"⟩
abbrev cX2_moment : ByteArray := prog_1_method_6_code
def yX2_moment : MethodName := ⟨RX2, "moment", "(III)I"⟩
abbrev cX2_milli : ByteArray := prog_1_method_7_code
def yX2_milli : MethodName := ⟨RX2, "milli", "(III)I"⟩
abbrev cX2_move : ByteArray := prog_1_method_8_code
def yX2_move : MethodName := ⟨RX2, "move", "(IIIZ)I"⟩
abbrev cX2_momentOf : ByteArray := prog_1_method_9_code
def yX2_momentOf : MethodName := ⟨RX2, "momentOf", "(II)I"⟩
abbrev cX2_ofMoment : ByteArray := prog_1_method_10_code
def yX2_ofMoment : MethodName := ⟨RX2, "ofMoment", "(IZ)I"⟩
abbrev cX2_millis : ByteArray := prog_1_method_11_code
def yX2_millis : MethodName := ⟨RX2, "millis", "(I)Ljava/lang/String;"⟩
abbrev cX2_orderMoment : ByteArray := prog_1_method_12_code
def yX2_orderMoment : MethodName := ⟨RX2, "orderMoment", "(II)I"⟩
abbrev cX2_isMoment : ByteArray := prog_1_method_13_code
def yX2_isMoment : MethodName := ⟨RX2, "isMoment", "(III)Z"⟩
abbrev cX2_copyMoment : ByteArray := prog_1_method_14_code
def yX2_copyMoment : MethodName := ⟨RX2, "copyMoment", "(II)I"⟩
abbrev cX2_date : ByteArray := prog_1_method_15_code
def yX2_date : MethodName := ⟨RX2, "date", "(IIIIII)I"⟩
abbrev cX2_dateOf : ByteArray := prog_1_method_16_code
def yX2_dateOf : MethodName := ⟨RX2, "dateOf", "(III)I"⟩
abbrev cX2_moveDate : ByteArray := prog_1_method_17_code
def yX2_moveDate : MethodName := ⟨RX2, "moveDate", "(IIIZ)I"⟩
abbrev cX2_set : ByteArray := prog_1_method_18_code
def yX2_set : MethodName := ⟨RX2, "set", "(III)I"⟩
abbrev cX2_anew : ByteArray := prog_1_method_19_code
def yX2_anew : MethodName := ⟨RX2, "anew", "(IIZ)I"⟩
abbrev cX2_copy : ByteArray := prog_1_method_20_code
def yX2_copy : MethodName := ⟨RX2, "copy", "(II)I"⟩
abbrev cX2_ofDate : ByteArray := prog_1_method_21_code
def yX2_ofDate : MethodName := ⟨RX2, "ofDate", "(II)I"⟩
abbrev cX2_orderDate : ByteArray := prog_1_method_22_code
def yX2_orderDate : MethodName := ⟨RX2, "orderDate", "(II)I"⟩
abbrev cX2_isDate : ByteArray := prog_1_method_23_code
def yX2_isDate : MethodName := ⟨RX2, "isDate", "(III)Z"⟩
abbrev cX2_clock : ByteArray := prog_1_method_24_code
def yX2_clock : MethodName := ⟨RX2, "clock", "(IIII)I"⟩
abbrev cX2_clockOf : ByteArray := prog_1_method_25_code
def yX2_clockOf : MethodName := ⟨RX2, "clockOf", "(II)I"⟩
abbrev cX2_strike : ByteArray := prog_1_method_26_code
def yX2_strike : MethodName := ⟨RX2, "strike", "(II)I"⟩
abbrev cX2_moveClock : ByteArray := prog_1_method_27_code
def yX2_moveClock : MethodName := ⟨RX2, "moveClock", "(IIIZ)I"⟩
abbrev cX2_anewClock : ByteArray := prog_1_method_28_code
def yX2_anewClock : MethodName := ⟨RX2, "anewClock", "(IIZ)I"⟩
abbrev cX2_copyClock : ByteArray := prog_1_method_29_code
def yX2_copyClock : MethodName := ⟨RX2, "copyClock", "(II)I"⟩
abbrev cX2_ofClock : ByteArray := prog_1_method_30_code
def yX2_ofClock : MethodName := ⟨RX2, "ofClock", "(II)I"⟩
abbrev cX2_orderClock : ByteArray := prog_1_method_31_code
def yX2_orderClock : MethodName := ⟨RX2, "orderClock", "(II)I"⟩
abbrev cX2_isClock : ByteArray := prog_1_method_32_code
def yX2_isClock : MethodName := ⟨RX2, "isClock", "(III)Z"⟩
abbrev cX2_knock : ByteArray := prog_1_method_33_code
def yX2_knock : MethodName := ⟨RX2, "knock", "()I"⟩
abbrev cX2_house : ByteArray := prog_1_method_34_code
def yX2_house : MethodName := ⟨RX2, "house", "(I)I"⟩
abbrev cX2_isSound : ByteArray := prog_1_method_35_code
def yX2_isSound : MethodName := ⟨RX2, "isSound", "()Z"⟩
abbrev cX2_digest : ByteArray := prog_1_method_36_code
def yX2_digest : MethodName := ⟨RX2, "digest", "()J"⟩
abbrev cX2_requireOne : ByteArray := prog_1_method_37_code
def yX2_requireOne : MethodName := ⟨RX2, "requireOne", "(II)V"⟩
abbrev cX2_requireWithin : ByteArray := prog_1_method_38_code
def yX2_requireWithin : MethodName := ⟨RX2, "requireWithin", "(III)V"⟩
abbrev cX2_isWithin : ByteArray := prog_1_method_39_code
def yX2_isWithin : MethodName := ⟨RX2, "isWithin", "(JJJ)Z"⟩
abbrev cX2_at : ByteArray := prog_1_method_40_code
def yX2_at : MethodName := ⟨RX2, "at", "([LMomentdesk$Local;I)LMomentdesk$Local;"⟩
abbrev cX2_signed : ByteArray := prog_1_method_41_code
def yX2_signed : MethodName := ⟨RX2, "signed", "(IZ)J"⟩
abbrev cX2_compared : ByteArray := prog_1_method_42_code
def yX2_compared : MethodName := ⟨RX2, "compared", "(JJ)I"⟩
abbrev cX2_refused : ByteArray := prog_1_method_43_code
def yX2_refused : MethodName := ⟨RX2, "refused", "()I"⟩
abbrev cX2_putNumber : ByteArray := prog_1_method_44_code
def yX2_putNumber : MethodName := ⟨RX2, "putNumber", "(IJ)I"⟩
abbrev cX2_putLocal : ByteArray := prog_1_method_45_code
def yX2_putLocal : MethodName := ⟨RX2, "putLocal", "(LMomentdesk$Local;JII)I"⟩
abbrev cX2_putClock : ByteArray := prog_1_method_46_code
def yX2_putClock : MethodName := ⟨RX2, "putClock", "(LMomentdesk$Local;JII)I"⟩
abbrev cX2_secondOf : ByteArray := prog_1_method_47_code
def yX2_secondOf : MethodName := ⟨RX2, "secondOf", "(J)J"⟩
abbrev cX2_nanoOf : ByteArray := prog_1_method_48_code
def yX2_nanoOf : MethodName := ⟨RX2, "nanoOf", "(J)I"⟩
abbrev cX2_numberOf : ByteArray := prog_1_method_49_code
def yX2_numberOf : MethodName := ⟨RX2, "numberOf", "(LMomentdesk$Local;)J"⟩
abbrev cX2_textOf : ByteArray := prog_1_method_50_code
def yX2_textOf : MethodName := ⟨RX2, "textOf", "(J)Ljava/lang/String;"⟩
abbrev cX2_firstMoment : ByteArray := prog_1_method_51_code
def yX2_firstMoment : MethodName := ⟨RX2, "firstMoment", "()I"⟩
abbrev cX2_secondsOn : ByteArray := prog_1_method_52_code
def yX2_secondsOn : MethodName := ⟨RX2, "secondsOn", "(LMomentdesk$Local;IJ)J"⟩
abbrev cX2_nanoOn : ByteArray := prog_1_method_53_code
def yX2_nanoOn : MethodName := ⟨RX2, "nanoOn", "(LMomentdesk$Local;IJ)I"⟩
abbrev cX2_putMonths : ByteArray := prog_1_method_54_code
def yX2_putMonths : MethodName := ⟨RX2, "putMonths", "(LMomentdesk$Local;J)I"⟩
abbrev cX2_putDay : ByteArray := prog_1_method_55_code
def yX2_putDay : MethodName := ⟨RX2, "putDay", "(LMomentdesk$Local;I)I"⟩
abbrev cX2_setOfDay : ByteArray := prog_1_method_56_code
def yX2_setOfDay : MethodName := ⟨RX2, "setOfDay", "(LMomentdesk$Local;II)I"⟩
abbrev cX2_setOfTime : ByteArray := prog_1_method_57_code
def yX2_setOfTime : MethodName := ⟨RX2, "setOfTime", "(LMomentdesk$Local;II)I"⟩
abbrev cX2_setPart : ByteArray := prog_1_method_58_code
def yX2_setPart : MethodName := ⟨RX2, "setPart", "(LMomentdesk$Local;IIIJ)I"⟩
abbrev cX2_datePart : ByteArray := prog_1_method_59_code
def yX2_datePart : MethodName := ⟨RX2, "datePart", "(LMomentdesk$Local;I)I"⟩
abbrev cX2_clockPart : ByteArray := prog_1_method_60_code
def yX2_clockPart : MethodName := ⟨RX2, "clockPart", "(LMomentdesk$Local;I)I"⟩
abbrev cX2_isSo : ByteArray := prog_1_method_61_code
def yX2_isSo : MethodName := ⟨RX2, "isSo", "(LMomentdesk$Local;LMomentdesk$Local;I)Z"⟩
abbrev cX2_firstDated : ByteArray := prog_1_method_62_code
def yX2_firstDated : MethodName := ⟨RX2, "firstDated", "()I"⟩
abbrev cX2_areMomentsSound : ByteArray := prog_1_method_63_code
def yX2_areMomentsSound : MethodName := ⟨RX2, "areMomentsSound", "()Z"⟩
abbrev cX2_areDatesToldAnewSound : ByteArray := prog_1_method_64_code
def yX2_areDatesToldAnewSound : MethodName := ⟨RX2, "areDatesToldAnewSound", "()Z"⟩
abbrev cX2_isToldAnewSound : ByteArray := prog_1_method_65_code
def yX2_isToldAnewSound : MethodName := ⟨RX2, "isToldAnewSound", "(LMomentdesk$Local;I)Z"⟩
abbrev cX2_arePairsSound : ByteArray := prog_1_method_66_code
def yX2_arePairsSound : MethodName := ⟨RX2, "arePairsSound", "()Z"⟩
abbrev cX2_isPairSound : ByteArray := prog_1_method_67_code
def yX2_isPairSound : MethodName := ⟨RX2, "isPairSound", "(LMomentdesk$Local;LMomentdesk$Local;)Z"⟩
abbrev cX2_areStrikesSound : ByteArray := prog_1_method_68_code
def yX2_areStrikesSound : MethodName := ⟨RX2, "areStrikesSound", "()Z"⟩
abbrev cX2_added : ByteArray := prog_1_method_69_code
def yX2_added : MethodName := ⟨RX2, "added", "(JJ)J"⟩
abbrev cX2_withOffsets : ByteArray := prog_1_method_70_code
def yX2_withOffsets : MethodName := ⟨RX2, "withOffsets", "(J)J"⟩
abbrev cX2_withMoments : ByteArray := prog_1_method_71_code
def yX2_withMoments : MethodName := ⟨RX2, "withMoments", "(J)J"⟩
abbrev cX2_withDates : ByteArray := prog_1_method_72_code
def yX2_withDates : MethodName := ⟨RX2, "withDates", "(J)J"⟩
abbrev cX2_withClocks : ByteArray := prog_1_method_73_code
def yX2_withClocks : MethodName := ⟨RX2, "withClocks", "(J)J"⟩
abbrev cX2_withDatePairs : ByteArray := prog_1_method_74_code
def yX2_withDatePairs : MethodName := ⟨RX2, "withDatePairs", "(J)J"⟩
abbrev cX2_withClockPairs : ByteArray := prog_1_method_75_code
def yX2_withClockPairs : MethodName := ⟨RX2, "withClockPairs", "(J)J"⟩
abbrev cX2_withHouse : ByteArray := prog_1_method_76_code
def yX2_withHouse : MethodName := ⟨RX2, "withHouse", "(J)J"⟩
def RX3 : String := "MomentdeskLaw$Out"
def TX3 : u_T := fun k => match k with
  | 0 => ("MomentdeskLaw$Out", "n", "J", false)
  | _ => ("MomentdeskLaw$Out", "s", "Ljava/lang/String;", false)
def tyX3 : Nat → FieldType := fun k => match k with
  | 0 => .long
  | _ => .object "java/lang/String"
abbrev wsX30 : List Cond := u_ws RX3 TX3 2
theorem nmX3 : ∀ a, a < 2 → ∀ b, b < 2 → a ≠ b → (TX3 a).2.1 ≠ (TX3 b).2.1 := by decide +kernel
theorem tyX3_ok : ∀ k, k < 2 → parseFieldDescriptor (TX3 k).2.2.1 = some (tyX3 k) := by decide +kernel
abbrev cX3_init : ByteArray := prog_5_method_1_code
def yX3_init : MethodName := ⟨RX3, "<init>", "()V"⟩
def RX4 : String := "MomentdeskModel"
def TX4 : u_T := fun k => match k with
  | 0 => ("MomentdeskModel", "thrown", "I", false)
  | 1 => ("MomentdeskModel", "knocks", "I", false)
  | 2 => ("MomentdeskModel", "refusals", "I", false)
  | 3 => ("MomentdeskModel", "offsets", "[I", true)
  | 4 => ("MomentdeskModel", "moments", "[J", true)
  | 5 => ("MomentdeskModel", "days", "[I", true)
  | 6 => ("MomentdeskModel", "seconds", "[I", true)
  | 7 => ("MomentdeskModel", "nanos", "[I", true)
  | _ => ("MomentdeskModel", "owns", "[I", true)
def tyX4 : Nat → FieldType := fun k => match k with
  | 0 => .int
  | 1 => .int
  | 2 => .int
  | 3 => .array .int
  | 4 => .array .long
  | 5 => .array .int
  | 6 => .array .int
  | 7 => .array .int
  | _ => .array .int
abbrev wsX40 : List Cond := u_ws RX4 TX4 9
theorem nmX4 : ∀ a, a < 9 → ∀ b, b < 9 → a ≠ b → (TX4 a).2.1 ≠ (TX4 b).2.1 := by decide +kernel
theorem tyX4_ok : ∀ k, k < 9 → parseFieldDescriptor (TX4 k).2.2.1 = some (tyX4 k) := by decide +kernel
abbrev cX4_init : ByteArray := prog_6_method_1_code
def yX4_init : MethodName := ⟨RX4, "<init>", "()V"⟩
abbrev cX4_thrown : ByteArray := prog_6_method_2_code
def yX4_thrown : MethodName := ⟨RX4, "thrown", "()I"⟩
abbrev cX4_isIn : ByteArray := prog_6_method_3_code
def yX4_isIn : MethodName := ⟨RX4, "isIn", "(JJJ)Z"⟩
abbrev cX4_one : ByteArray := prog_6_method_4_code
def yX4_one : MethodName := ⟨RX4, "one", "(Z)I"⟩
abbrev cX4_isStopped : ByteArray := prog_6_method_5_code
def yX4_isStopped : MethodName := ⟨RX4, "isStopped", "(ZZ)Z"⟩
abbrev cX4_no : ByteArray := prog_6_method_6_code
def yX4_no : MethodName := ⟨RX4, "no", "()I"⟩
abbrev cX4_isNone : ByteArray := prog_6_method_7_code
def yX4_isNone : MethodName := ⟨RX4, "isNone", "(I)Z"⟩
abbrev cX4_isNoClock : ByteArray := prog_6_method_8_code
def yX4_isNoClock : MethodName := ⟨RX4, "isNoClock", "(I)Z"⟩
abbrev cX4_isLeap : ByteArray := prog_6_method_9_code
def yX4_isLeap : MethodName := ⟨RX4, "isLeap", "(I)Z"⟩
abbrev cX4_daysOf : ByteArray := prog_6_method_10_code
def yX4_daysOf : MethodName := ⟨RX4, "daysOf", "(II)I"⟩
abbrev cX4_daysOf_ : ByteArray := prog_6_method_11_code
def yX4_daysOf_ : MethodName := ⟨RX4, "daysOf", "(I)I"⟩
abbrev cX4_firstOf : ByteArray := prog_6_method_12_code
def yX4_firstOf : MethodName := ⟨RX4, "firstOf", "(I)I"⟩
abbrev cX4_dayOf : ByteArray := prog_6_method_13_code
def yX4_dayOf : MethodName := ⟨RX4, "dayOf", "(III)I"⟩
abbrev cX4_yearOf : ByteArray := prog_6_method_14_code
def yX4_yearOf : MethodName := ⟨RX4, "yearOf", "(I)I"⟩
abbrev cX4_parts : ByteArray := prog_6_method_15_code
def yX4_parts : MethodName := ⟨RX4, "parts", "(I)[I"⟩
abbrev cX4_isDay : ByteArray := prog_6_method_16_code
def yX4_isDay : MethodName := ⟨RX4, "isDay", "(J)Z"⟩
abbrev cX4_offset : ByteArray := prog_6_method_17_code
def yX4_offset : MethodName := ⟨RX4, "offset", "(II)I"⟩
abbrev cX4_offsetOf : ByteArray := prog_6_method_18_code
def yX4_offsetOf : MethodName := ⟨RX4, "offsetOf", "(IIII)I"⟩
abbrev cX4_seconds : ByteArray := prog_6_method_19_code
def yX4_seconds : MethodName := ⟨RX4, "seconds", "(I)I"⟩
abbrev cX4_order : ByteArray := prog_6_method_20_code
def yX4_order : MethodName := ⟨RX4, "order", "(JJ)I"⟩
abbrev cX4_orderOffset : ByteArray := prog_6_method_21_code
def yX4_orderOffset : MethodName := ⟨RX4, "orderOffset", "(II)I"⟩
abbrev cX4_whole : ByteArray := prog_6_method_22_code
def yX4_whole : MethodName := ⟨RX4, "whole", "(JJ)J"⟩
abbrev cX4_rest : ByteArray := prog_6_method_23_code
def yX4_rest : MethodName := ⟨RX4, "rest", "(JJ)I"⟩
abbrev cX4_become : ByteArray := prog_6_method_24_code
def yX4_become : MethodName := ⟨RX4, "become", "(IJ)I"⟩
abbrev cX4_moment : ByteArray := prog_6_method_25_code
def yX4_moment : MethodName := ⟨RX4, "moment", "(III)I"⟩
abbrev cX4_milli : ByteArray := prog_6_method_26_code
def yX4_milli : MethodName := ⟨RX4, "milli", "(III)I"⟩
abbrev cX4_move : ByteArray := prog_6_method_27_code
def yX4_move : MethodName := ⟨RX4, "move", "(IIIZ)I"⟩
abbrev cX4_number : ByteArray := prog_6_method_28_code
def yX4_number : MethodName := ⟨RX4, "number", "(I)J"⟩
abbrev cX4_momentOf : ByteArray := prog_6_method_29_code
def yX4_momentOf : MethodName := ⟨RX4, "momentOf", "(II)I"⟩
abbrev cX4_copyMoment : ByteArray := prog_6_method_30_code
def yX4_copyMoment : MethodName := ⟨RX4, "copyMoment", "(II)I"⟩
abbrev cX4_ofMoment : ByteArray := prog_6_method_31_code
def yX4_ofMoment : MethodName := ⟨RX4, "ofMoment", "(IZ)I"⟩
abbrev cX4_millis : ByteArray := prog_6_method_32_code
def yX4_millis : MethodName := ⟨RX4, "millis", "(I)Ljava/lang/String;"⟩
abbrev cX4_orderMoment : ByteArray := prog_6_method_33_code
def yX4_orderMoment : MethodName := ⟨RX4, "orderMoment", "(II)I"⟩
abbrev cX4_isMoment : ByteArray := prog_6_method_34_code
def yX4_isMoment : MethodName := ⟨RX4, "isMoment", "(III)Z"⟩
abbrev cX4_put : ByteArray := prog_6_method_35_code
def yX4_put : MethodName := ⟨RX4, "put", "(IIIII)I"⟩
abbrev cX4_put_ : ByteArray := prog_6_method_36_code
def yX4_put_ : MethodName := ⟨RX4, "put", "(IJJII)I"⟩
abbrev cX4_isTime : ByteArray := prog_6_method_37_code
def yX4_isTime : MethodName := ⟨RX4, "isTime", "(II)Z"⟩
abbrev cX4_isThere : ByteArray := prog_6_method_38_code
def yX4_isThere : MethodName := ⟨RX4, "isThere", "(III)Z"⟩
abbrev cX4_date : ByteArray := prog_6_method_39_code
def yX4_date : MethodName := ⟨RX4, "date", "(IIIIII)I"⟩
abbrev cX4_dateOf : ByteArray := prog_6_method_40_code
def yX4_dateOf : MethodName := ⟨RX4, "dateOf", "(III)I"⟩
abbrev cX4_moveMonths : ByteArray := prog_6_method_41_code
def yX4_moveMonths : MethodName := ⟨RX4, "moveMonths", "(IJ)I"⟩
abbrev cX4_putDay : ByteArray := prog_6_method_42_code
def yX4_putDay : MethodName := ⟨RX4, "putDay", "(IIII)I"⟩
abbrev cX4_secondsOf : ByteArray := prog_6_method_43_code
def yX4_secondsOf : MethodName := ⟨RX4, "secondsOf", "(I)I"⟩
abbrev cX4_moveDate : ByteArray := prog_6_method_44_code
def yX4_moveDate : MethodName := ⟨RX4, "moveDate", "(IIIZ)I"⟩
abbrev cX4_set : ByteArray := prog_6_method_45_code
def yX4_set : MethodName := ⟨RX4, "set", "(III)I"⟩
abbrev cX4_anew : ByteArray := prog_6_method_46_code
def yX4_anew : MethodName := ⟨RX4, "anew", "(IIZ)I"⟩
abbrev cX4_copy : ByteArray := prog_6_method_47_code
def yX4_copy : MethodName := ⟨RX4, "copy", "(II)I"⟩
abbrev cX4_told : ByteArray := prog_6_method_48_code
def yX4_told : MethodName := ⟨RX4, "told", "(II)I"⟩
abbrev cX4_ofDate : ByteArray := prog_6_method_49_code
def yX4_ofDate : MethodName := ⟨RX4, "ofDate", "(II)I"⟩
abbrev cX4_ordered : ByteArray := prog_6_method_50_code
def yX4_ordered : MethodName := ⟨RX4, "ordered", "(II)I"⟩
abbrev cX4_is : ByteArray := prog_6_method_51_code
def yX4_is : MethodName := ⟨RX4, "is", "(III)Z"⟩
abbrev cX4_orderDate : ByteArray := prog_6_method_52_code
def yX4_orderDate : MethodName := ⟨RX4, "orderDate", "(II)I"⟩
abbrev cX4_isDate : ByteArray := prog_6_method_53_code
def yX4_isDate : MethodName := ⟨RX4, "isDate", "(III)Z"⟩
abbrev cX4_ofSecond : ByteArray := prog_6_method_54_code
def yX4_ofSecond : MethodName := ⟨RX4, "ofSecond", "(I)I"⟩
abbrev cX4_turn : ByteArray := prog_6_method_55_code
def yX4_turn : MethodName := ⟨RX4, "turn", "(IJII)I"⟩
abbrev cX4_clock : ByteArray := prog_6_method_56_code
def yX4_clock : MethodName := ⟨RX4, "clock", "(IIII)I"⟩
abbrev cX4_clockOf : ByteArray := prog_6_method_57_code
def yX4_clockOf : MethodName := ⟨RX4, "clockOf", "(II)I"⟩
abbrev cX4_copyClock : ByteArray := prog_6_method_58_code
def yX4_copyClock : MethodName := ⟨RX4, "copyClock", "(II)I"⟩
abbrev cX4_strike : ByteArray := prog_6_method_59_code
def yX4_strike : MethodName := ⟨RX4, "strike", "(II)I"⟩
abbrev cX4_moveClock : ByteArray := prog_6_method_60_code
def yX4_moveClock : MethodName := ⟨RX4, "moveClock", "(IIIZ)I"⟩
abbrev cX4_anewClock : ByteArray := prog_6_method_61_code
def yX4_anewClock : MethodName := ⟨RX4, "anewClock", "(IIZ)I"⟩
abbrev cX4_clockTold : ByteArray := prog_6_method_62_code
def yX4_clockTold : MethodName := ⟨RX4, "clockTold", "(II)I"⟩
abbrev cX4_ofClock : ByteArray := prog_6_method_63_code
def yX4_ofClock : MethodName := ⟨RX4, "ofClock", "(II)I"⟩
abbrev cX4_orderClock : ByteArray := prog_6_method_64_code
def yX4_orderClock : MethodName := ⟨RX4, "orderClock", "(II)I"⟩
abbrev cX4_isClock : ByteArray := prog_6_method_65_code
def yX4_isClock : MethodName := ⟨RX4, "isClock", "(III)Z"⟩
abbrev cX4_knock : ByteArray := prog_6_method_66_code
def yX4_knock : MethodName := ⟨RX4, "knock", "()I"⟩
abbrev cX4_houseTold : ByteArray := prog_6_method_67_code
def yX4_houseTold : MethodName := ⟨RX4, "houseTold", "(I)I"⟩
abbrev cX4_house : ByteArray := prog_6_method_68_code
def yX4_house : MethodName := ⟨RX4, "house", "(I)I"⟩
abbrev cX4_isSound : ByteArray := prog_6_method_69_code
def yX4_isSound : MethodName := ⟨RX4, "isSound", "()Z"⟩
abbrev cX4_digest : ByteArray := prog_6_method_70_code
def yX4_digest : MethodName := ⟨RX4, "digest", "()J"⟩
def RJ5 : String := "java/lang/AbstractStringBuilder"
def TJ5 : u_T := fun k => match k with
  | _ => ("", "", "", false)
def tyJ5 : Nat → FieldType := fun k => match k with
  | _ => .int
theorem tyJ5_ok : ∀ k, k < 0 → parseFieldDescriptor (TJ5 k).2.2.1 = some (tyJ5 k) := by decide +kernel
def RJ9 : String := "java/lang/Math"
def TJ9 : u_T := fun k => match k with
  | _ => ("", "", "", false)
def tyJ9 : Nat → FieldType := fun k => match k with
  | _ => .int
theorem tyJ9_ok : ∀ k, k < 0 → parseFieldDescriptor (TJ9 k).2.2.1 = some (tyJ9 k) := by decide +kernel
abbrev cJ9_floorDiv_f86c9 : ByteArray := prog_15_method_49_code
def yJ9_floorDiv_f86c9 : MethodName := ⟨RJ9, "floorDiv", "(JJ)J"⟩
abbrev cJ9_floorMod_7cf53 : ByteArray := prog_15_method_50_code
def yJ9_floorMod_7cf53 : MethodName := ⟨RJ9, "floorMod", "(II)I"⟩
abbrev cJ9_floorMod_f86c9 : ByteArray := prog_15_method_52_code
def yJ9_floorMod_f86c9 : MethodName := ⟨RJ9, "floorMod", "(JJ)J"⟩
abbrev cJ9_abs_067f4 : ByteArray := prog_15_method_61_code
def yJ9_abs_067f4 : MethodName := ⟨RJ9, "abs", "(J)J"⟩
abbrev cJ9_max_7cf53 : ByteArray := prog_15_method_65_code
def yJ9_max_7cf53 : MethodName := ⟨RJ9, "max", "(II)I"⟩
abbrev cJ9_min_7cf53 : ByteArray := prog_15_method_69_code
def yJ9_min_7cf53 : MethodName := ⟨RJ9, "min", "(II)I"⟩
def RJ0 : String := "java/lang/String"
def TJ0 : u_T := fun k => match k with
  | 0 => ("java/lang/String", "value", "[B", true)
  | 1 => ("java/lang/String", "coder", "B", true)
  | 2 => ("java/lang/String", "hash", "I", false)
  | _ => ("java/lang/String", "hashIsZero", "Z", false)
def tyJ0 : Nat → FieldType := fun k => match k with
  | 0 => .array .byte
  | 1 => .byte
  | 2 => .int
  | _ => .boolean
abbrev wsJ00 : List Cond := u_ws RJ0 TJ0 4
theorem nmJ0 : ∀ a, a < 4 → ∀ b, b < 4 → a ≠ b → (TJ0 a).2.1 ≠ (TJ0 b).2.1 := by decide +kernel
theorem tyJ0_ok : ∀ k, k < 4 → parseFieldDescriptor (TJ0 k).2.2.1 = some (tyJ0 k) := by decide +kernel
def RJ4 : String := "java/lang/StringBuilder"
def TJ4 : u_T := fun k => match k with
  | 0 => ("java/lang/AbstractStringBuilder", "value", "[B", false)
  | 1 => ("java/lang/AbstractStringBuilder", "coder", "B", false)
  | 2 => ("java/lang/AbstractStringBuilder", "maybeLatin1", "Z", false)
  | _ => ("java/lang/AbstractStringBuilder", "count", "I", false)
def tyJ4 : Nat → FieldType := fun k => match k with
  | 0 => .array .byte
  | 1 => .byte
  | 2 => .boolean
  | _ => .int
abbrev wsJ40 : List Cond := u_ws RJ4 TJ4 4
theorem nmJ4 : ∀ a, a < 4 → ∀ b, b < 4 → a ≠ b → (TJ4 a).2.1 ≠ (TJ4 b).2.1 := by decide +kernel
theorem tyJ4_ok : ∀ k, k < 4 → parseFieldDescriptor (TJ4 k).2.2.1 = some (tyJ4 k) := by decide +kernel
def RL : String := "MomentdeskLaw"
abbrev cL_offset : ByteArray := method_2_code
def yL_offset : MethodName := ⟨RL, "offset", "(LMomentdesk;IILMomentdeskLaw$Out;)I"⟩
abbrev cL_offsetOf : ByteArray := method_3_code
def yL_offsetOf : MethodName := ⟨RL, "offsetOf", "(LMomentdesk;IIIILMomentdeskLaw$Out;)I"⟩
abbrev cL_seconds : ByteArray := method_4_code
def yL_seconds : MethodName := ⟨RL, "seconds", "(LMomentdesk;ILMomentdeskLaw$Out;)I"⟩
abbrev cL_orderOffset : ByteArray := method_5_code
def yL_orderOffset : MethodName := ⟨RL, "orderOffset", "(LMomentdesk;IILMomentdeskLaw$Out;)I"⟩
abbrev cL_moment : ByteArray := method_6_code
def yL_moment : MethodName := ⟨RL, "moment", "(LMomentdesk;IIILMomentdeskLaw$Out;)I"⟩
abbrev cL_milli : ByteArray := method_7_code
def yL_milli : MethodName := ⟨RL, "milli", "(LMomentdesk;IIILMomentdeskLaw$Out;)I"⟩
abbrev cL_move : ByteArray := method_8_code
def yL_move : MethodName := ⟨RL, "move", "(LMomentdesk;IIIZLMomentdeskLaw$Out;)I"⟩
abbrev cL_momentOf : ByteArray := method_9_code
def yL_momentOf : MethodName := ⟨RL, "momentOf", "(LMomentdesk;IILMomentdeskLaw$Out;)I"⟩
abbrev cL_ofMoment : ByteArray := method_10_code
def yL_ofMoment : MethodName := ⟨RL, "ofMoment", "(LMomentdesk;IZLMomentdeskLaw$Out;)I"⟩
abbrev cL_millis : ByteArray := method_11_code
def yL_millis : MethodName := ⟨RL, "millis", "(LMomentdesk;ILMomentdeskLaw$Out;)I"⟩
abbrev cL_orderMoment : ByteArray := method_12_code
def yL_orderMoment : MethodName := ⟨RL, "orderMoment", "(LMomentdesk;IILMomentdeskLaw$Out;)I"⟩
abbrev cL_isMoment : ByteArray := method_13_code
def yL_isMoment : MethodName := ⟨RL, "isMoment", "(LMomentdesk;IIILMomentdeskLaw$Out;)I"⟩
abbrev cL_copyMoment : ByteArray := method_14_code
def yL_copyMoment : MethodName := ⟨RL, "copyMoment", "(LMomentdesk;IILMomentdeskLaw$Out;)I"⟩
abbrev cL_date : ByteArray := method_15_code
def yL_date : MethodName := ⟨RL, "date", "(LMomentdesk;IIIIIILMomentdeskLaw$Out;)I"⟩
abbrev cL_dateOf : ByteArray := method_16_code
def yL_dateOf : MethodName := ⟨RL, "dateOf", "(LMomentdesk;IIILMomentdeskLaw$Out;)I"⟩
abbrev cL_moveDate : ByteArray := method_17_code
def yL_moveDate : MethodName := ⟨RL, "moveDate", "(LMomentdesk;IIIZLMomentdeskLaw$Out;)I"⟩
abbrev cL_set : ByteArray := method_18_code
def yL_set : MethodName := ⟨RL, "set", "(LMomentdesk;IIILMomentdeskLaw$Out;)I"⟩
abbrev cL_anew : ByteArray := method_19_code
def yL_anew : MethodName := ⟨RL, "anew", "(LMomentdesk;IIZLMomentdeskLaw$Out;)I"⟩
abbrev cL_copy : ByteArray := method_20_code
def yL_copy : MethodName := ⟨RL, "copy", "(LMomentdesk;IILMomentdeskLaw$Out;)I"⟩
abbrev cL_ofDate : ByteArray := method_21_code
def yL_ofDate : MethodName := ⟨RL, "ofDate", "(LMomentdesk;IILMomentdeskLaw$Out;)I"⟩
abbrev cL_orderDate : ByteArray := method_22_code
def yL_orderDate : MethodName := ⟨RL, "orderDate", "(LMomentdesk;IILMomentdeskLaw$Out;)I"⟩
abbrev cL_isDate : ByteArray := method_23_code
def yL_isDate : MethodName := ⟨RL, "isDate", "(LMomentdesk;IIILMomentdeskLaw$Out;)I"⟩
abbrev cL_clock : ByteArray := method_24_code
def yL_clock : MethodName := ⟨RL, "clock", "(LMomentdesk;IIIILMomentdeskLaw$Out;)I"⟩
abbrev cL_clockOf : ByteArray := method_25_code
def yL_clockOf : MethodName := ⟨RL, "clockOf", "(LMomentdesk;IILMomentdeskLaw$Out;)I"⟩
abbrev cL_strike : ByteArray := method_26_code
def yL_strike : MethodName := ⟨RL, "strike", "(LMomentdesk;IILMomentdeskLaw$Out;)I"⟩
abbrev cL_moveClock : ByteArray := method_27_code
def yL_moveClock : MethodName := ⟨RL, "moveClock", "(LMomentdesk;IIIZLMomentdeskLaw$Out;)I"⟩
abbrev cL_anewClock : ByteArray := method_28_code
def yL_anewClock : MethodName := ⟨RL, "anewClock", "(LMomentdesk;IIZLMomentdeskLaw$Out;)I"⟩
abbrev cL_copyClock : ByteArray := method_29_code
def yL_copyClock : MethodName := ⟨RL, "copyClock", "(LMomentdesk;IILMomentdeskLaw$Out;)I"⟩
abbrev cL_ofClock : ByteArray := method_30_code
def yL_ofClock : MethodName := ⟨RL, "ofClock", "(LMomentdesk;IILMomentdeskLaw$Out;)I"⟩
abbrev cL_orderClock : ByteArray := method_31_code
def yL_orderClock : MethodName := ⟨RL, "orderClock", "(LMomentdesk;IILMomentdeskLaw$Out;)I"⟩
abbrev cL_isClock : ByteArray := method_32_code
def yL_isClock : MethodName := ⟨RL, "isClock", "(LMomentdesk;IIILMomentdeskLaw$Out;)I"⟩
abbrev cL_house : ByteArray := method_33_code
def yL_house : MethodName := ⟨RL, "house", "(LMomentdesk;ILMomentdeskLaw$Out;)I"⟩
abbrev cL_law : ByteArray := code
def yL_law : MethodName := ⟨RL, "law", "([I)Z"⟩
abbrev vwCl : List vw_C := [(RJ0, TJ0, 4), (RJ4, TJ4, 4), (RX1, TX1, 3), (RX2, TX2, 8), (RX3, TX3, 2), (RX4, TX4, 9)]
end
section
/-! THE LOGIC: the machine's walk over a listed world, with all that is not looked at hidden; a row an instruction. (Own work; what it stands on is the kit's.) -/
/-- a word that stays true over a walk -/
def mgood (w : Cond) : Bool := match w with
  | .fieldLinkNest _ _ _ _ _ _ => true
  | .methodLinkNest _ _ _ _ => true
  | .castable _ _ => true
  | .declares _ => true
  | w => goodWord w
def mW : List Cond := lw_tbl.filter mgood
theorem mW_of {w : Cond} (h : w ∈ lw_tbl) (g : mgood w = true) : w ∈ mW := List.mem_filter.mpr ⟨h, g⟩
theorem mW_at {w : Cond} (i : Nat) (h : lw_tbl[i]? = some w) (g : mgood w = true) : w ∈ mW := mW_of (List.mem_of_getElem? h) g
theorem mword {args a' : Array Value} {s U : State} (hW : s.WarmedH U.vm) {w : Cond} (g : mgood w = true) (h : w.before args s = true) : w.before a' U = true := by
  unfold mgood at g
  split at g
  · exact va_Nw.use rfl (va_Nw.warmF hW (va_Nw.of rfl h))
  · exact va_Nw.use rfl (va_Nw.warmM hW (va_Nw.of rfl h))
  · exact va_Nw.use rfl (va_Nw.warmC hW (va_Nw.of rfl h))
  · exact va_Nw.use rfl (va_Nw.warmD hW (va_Nw.of rfl h))
  · exact word_at hW (good_of_word g) h
theorem mwords {args : Array Value} {s : State} (h : ∀ w ∈ mW, w.before args s = true) {w : Cond} (hw : w ∈ mW) (a' : Array Value) (U : State) (hW : s.WarmedH U.vm) : w.before a' U = true :=
  mword hW (List.mem_filter.mp hw).2 (h w hw)
/-- the two texts of the class's own exceptions, and the two statics that a Throwable's constructor reads -/
def mst (A : Nat → Prop) (U : State) : Prop :=
  (∃ a, vk_R RX2 252 "there is no such one" a U) ∧ (∃ a, vk_R RX2 259 "a number is not within its limits" a U) ∧ vx_Zq Bundle.tN "UNASSIGNED_STACK" Bundle.steD A U U.heap ∧ vx_Zq Bundle.tN "SUPPRESSED_SENTINEL" Bundle.listD A U U.heap
theorem mst.to {A : Nat → Prop} {s U : State} (hW : s.WarmedH U.vm) (h : mst A s) (hq : ∀ a : Nat, a < s.heap.size → ¬ A a → U.heap[a]? = s.heap[a]?) : mst A U := by
  obtain ⟨⟨a, h1⟩, ⟨b, h2⟩, h3, h4⟩ := h
  exact ⟨⟨a, vk_R.warm hW h1⟩, ⟨b, vk_R.warm hW h2⟩, vx_Zq.moved hW.alike (h3.kept hq), vx_Zq.moved hW.alike (h4.kept hq)⟩
/-- what stands at a method's start -/
def mU (D : va_G) (tys : List (ClassId × FieldType)) (A : Nat → Prop) (ws : va_W) (U : State) : Prop :=
  va_P D vwCl ws U.heap ∧ va_D A ws ∧ va_K D vwCl tys U ∧ (∀ q : Nat, U.heap.size ≤ q → A q) ∧ mst A U
theorem mU_blind {D : va_G} {tys : List (ClassId × FieldType)} {A : Nat → Prop} {ws : va_W} {as : List Value} : FrameBlind (va_Pc as (mU D tys A ws)) := by
  intro a U g mk h
  obtain ⟨e, hP, hD, hK, hA, ⟨a1, h1⟩, ⟨b1, h2⟩, h3, h4⟩ := h
  exact ⟨e, hP, hD, va_K.moved (u := U) (U := U.calling g mk a) (Vm.Alike.refl U.vm) hK, hA, ⟨a1, vk_R.same rfl h1⟩, ⟨b1, vk_R.same rfl h2⟩, vx_Zq.moved (u := U) (U := U.calling g mk a) (Vm.Alike.refl U.vm) h3, vx_Zq.moved (u := U) (U := U.calling g mk a) (Vm.Alike.refl U.vm) h4⟩
def mQ (Φ : Option Value → va_W → Prop) (D : va_G) (A : Nat → Prop) : Array Value → State → Outcome → State → Prop := fun _ st oc t =>
  ∃ v ws', oc = .returned v ∧ Φ v ws' ∧ va_P D vwCl ws' t.heap ∧ va_D A ws' ∧ va_F A st t
def mX (Ψ : String → va_W → Prop) (D : va_G) (A : Nat → Prop) : String → State → State → Prop := fun E st t =>
  ∃ ws', Ψ E ws' ∧ va_P D vwCl ws' t.heap ∧ va_D A ws' ∧ va_F A st t
/-- A CONTRACT: at these arguments, in this world, the method returns v and the world ws' with Φ, or throws E in a world with Ψ -/
def mCt (tys : List (ClassId × FieldType)) (y : MethodName) (cc : ByteArray) (nL : Nat) (ret : Option FieldType) (rm : Room) (as : List Value) (ws : va_W) (Φ : Option Value → va_W → Prop) (Ψ : String → va_W → Prop) : Prop :=
  ∀ (l : Launch) (D : va_G) (A : Nat → Prop), l.stackTraces = false → vx_Met l y (Cond.code y cc nL ret :: mW) rm (va_Pc as (mU D tys A ws)) (mQ Φ D A) (mX Ψ D A) rm.cells rm.slots A
/-- the same for a method with handlers -/
def mCh (tys : List (ClassId × FieldType)) (y : MethodName) (cc : ByteArray) (nL : Nat) (ret : Option FieldType) (hh : List (Nat × Nat × Nat × Nat)) (rm : Room) (as : List Value) (ws : va_W) (Φ : Option Value → va_W → Prop) : Prop :=
  ∀ (l : Launch) (D : va_G) (A : Nat → Prop), l.stackTraces = false → vx_Met l y (Cond.codeWith y cc nL ret hh :: mW) rm (va_Pc as (mU D tys A ws)) (mQ Φ D A) (mX (fun _ _ => False) D A) rm.cells rm.slots A
abbrev mC : Type := Program × Launch × Env × Room × State × MethodId × Array Value × List Frame × Method × Code × (State → Prop) × va_G × List (ClassId × FieldType) × (Nat → Prop)
def lget : List (Nat × Option Value) → Nat → Option Value
  | [], _ => none
  | (j, v) :: r, i => bif Nat.beq j i then v else lget r i
/-- no long ends at this place -/
def lgp (lv : List (Nat × Option Value)) (i : Nat) : Bool := match i with
  | 0 => true
  | j + 1 => match lget lv j with
    | some w => Nat.beq w.category 1
    | none => true
def mL (ls : Array Slot) (nL : Nat) (lv : List (Nat × Option Value)) : Prop := ls.size = nL ∧ lv_wf ls ∧ ∀ i v, lget lv i = some v → ls[i]? = some (.val v)
theorem mL.st1 {ls : Array Slot} {nL : Nat} {lv : List (Nat × Option Value)} {i : Nat} {v : Value} (h : mL ls nL lv) (hi : i < nL) (hc : v.category = 1) (hp : lgp lv i = true) : ∃ ls', storeLocals ls i v = some ls' ∧ mL ls' nL ((i, some v) :: lv) := by
  obtain ⟨ls', e', h'⟩ := lv_store1 (l := []) (v := v) ⟨h.1, h.2.1, fun q hq => nomatch hq⟩ hi hc
  refine ⟨ls', e', h'.1, h'.2.1, fun j w hj => ?_⟩
  by_cases e : i = j
  · subst e
    have hw : some v = some w := by simpa [lget] using hj
    cases hw
    exact h'.2.2 (i, v) List.mem_cons_self
  · have hj' : lget lv j = some w := by
      have hb : Nat.beq i j = false := by
        cases hbe : Nat.beq i j
        · rfl
        · exact absurd (Nat.eq_of_beq_eq_true hbe) e
      simpa [lget, hb] using hj
    obtain ⟨ls'', e'', h''⟩ := lv_store1 (l := [(j, w)]) (v := v) ⟨h.1, h.2.1, fun q hq => by cases List.mem_singleton.mp hq; exact h.2.2 j w hj'⟩ hi hc
    cases e'.symm.trans e''
    refine h''.2.2 (j, w) (List.mem_cons_of_mem _ (List.mem_filter.mpr ⟨List.mem_singleton.mpr rfl, ?_⟩))
    have hcat : j + 1 = i → ¬ w.category = 2 := fun hji hw => by
      subst hji
      simp only [lgp, hj'] at hp
      have := Nat.eq_of_beq_eq_true hp
      omega
    have e2 : ¬ j = i := fun q => e q.symm
    by_cases hji : j + 1 = i
    · simp [e2, hcat hji]
    · simp [e2, hji]
theorem mL.st2 {ls : Array Slot} {nL : Nat} {lv : List (Nat × Option Value)} {i : Nat} {v : Value} (h : mL ls nL lv) (hi : i + 1 < nL) (hc : v.category = 2) (hp : lgp lv i = true) : ∃ ls', storeLocals ls i v = some ls' ∧ mL ls' nL ((i, some v) :: (i + 1, none) :: lv) := by
  obtain ⟨ls', e', h'⟩ := lv_store2 (l := []) (v := v) ⟨h.1, h.2.1, fun q hq => nomatch hq⟩ hi hc
  refine ⟨ls', e', h'.1, h'.2.1, fun j w hj => ?_⟩
  by_cases e : i = j
  · subst e
    have hw : some v = some w := by simpa [lget] using hj
    cases hw
    exact h'.2.2 (i, v) List.mem_cons_self
  · have hb : Nat.beq i j = false := by
      cases hbe : Nat.beq i j
      · rfl
      · exact absurd (Nat.eq_of_beq_eq_true hbe) e
    by_cases f : i + 1 = j
    · subst f
      simp [lget, hb] at hj
    · have hb2 : Nat.beq (i + 1) j = false := by
        cases hbe : Nat.beq (i + 1) j
        · rfl
        · exact absurd (Nat.eq_of_beq_eq_true hbe) f
      have hj' : lget lv j = some w := by simpa [lget, hb, hb2] using hj
      obtain ⟨ls'', e'', h''⟩ := lv_store2 (l := [(j, w)]) (v := v) ⟨h.1, h.2.1, fun q hq => by cases List.mem_singleton.mp hq; exact h.2.2 j w hj'⟩ hi hc
      cases e'.symm.trans e''
      refine h''.2.2 (j, w) (List.mem_cons_of_mem _ (List.mem_filter.mpr ⟨List.mem_singleton.mpr rfl, ?_⟩))
      have hcat : j + 1 = i → ¬ w.category = 2 := fun hji hw => by
        subst hji
        simp only [lgp, hj'] at hp
        have := Nat.eq_of_beq_eq_true hp
        omega
      have e2 : ¬ j = i := fun q => e q.symm
      have f2 : ¬ j = i + 1 := fun q => f q.symm
      by_cases hji : j + 1 = i
      · simp [e2, f2, hcat hji]
      · simp [e2, f2, hji]
/-- the locals that a loop's head names -/
theorem mL.sub {ls : Array Slot} {nL : Nat} {lv lv' : List (Nat × Option Value)} (h : mL ls nL lv) (hs : ∀ q ∈ lv', q.2 = none ∨ lget lv q.1 = q.2) : mL ls nL lv' := by
  refine ⟨h.1, h.2.1, fun i v hi => h.2.2 i v ?_⟩
  induction lv' with
  | nil => simp [lget] at hi
  | cons a r ih =>
    obtain ⟨j, w⟩ := a
    by_cases e : j = i
    · subst e
      have hb : Nat.beq j j = true := by simp
      have hw : w = some v := by simpa [lget, hb] using hi
      rcases hs (j, w) List.mem_cons_self with q | q
      · exact absurd (q : w = none) (by rw [hw]; exact fun z => nomatch z)
      · exact (q : lget lv j = w).trans hw
    · have hb : Nat.beq j i = false := by
        cases hbe : Nat.beq j i
        · rfl
        · exact absurd (Nat.eq_of_beq_eq_true hbe) e
      exact ih (fun q hq => hs q (List.mem_cons_of_mem _ hq)) (by simpa [lget, hb] using hi)
/-- THE WALK'S JUDGEMENT: at pc, locals lv, stack st, world ws, k cells and n slots made -/
def mV (X : mC) (pc : Nat) (lv : List (Nat × Option Value)) (st : List Value) (ws : va_W) (k n : Nat) : Prop := match X with
  | (p, l, e, R, s, m, args, below, meth, c, Q, D, _, A) => ∀ (H : Heap) (locs : List Loc) (ls : Array Slot), va_P D vwCl ws H → va_D A ws → va_S A s.heap H locs → mL ls c.maxLocals lv → W p l e R s m args below meth c H locs k n Q (F0 m pc ls st)
/-- .. with E thrown over it -/
def mT (X : mC) (pc : Nat) (lv : List (Nat × Option Value)) (st : List Value) (ws : va_W) (k n : Nat) (E : String) : Prop := match X with
  | (p, l, e, R, s, m, args, below, meth, c, Q, D, _, A) => ∀ (H : Heap) (locs : List Loc) (ls : Array Slot) (q : Addr) (ce : Cell), va_P D vwCl ws H → va_D A ws → va_S A s.heap H locs → mL ls c.maxLocals lv → H[q]? = some ce → ce.vm = .none → s.vm.findClass E = some ce.cls → vx_W p l e R s m args below meth c H locs k n Q (F0 m pc ls st) q
def mOK (X : mC) (own : String) (cc : ByteArray) (nL : Nat) (R : Room) (hh : List (Nat × Nat × Nat × Nat)) (tys : List (ClassId × FieldType)) : Prop := match X with
  | (p, l, _, R', s, m, args, _, meth, c, _, D, tys', A) => p.tables.exec = Jvm.exec ∧ c.code = cc ∧ c.maxLocals = nL ∧ R' = R ∧ s.vm.findClass own = some m.cls ∧ (∀ w ∈ mW, w.before args s = true) ∧ va_K D vwCl tys s ∧ tys' = tys ∧ meth.locks = false ∧ (∀ q : Nat, s.heap.size ≤ q → A q) ∧ mst A s ∧ l.stackTraces = false ∧ c.exceptionTable.toList = tableOf hh
/-- where the method may end -/
def mE (X : mC) (Φ : Option Value → va_W → Prop) (Ψ : String → va_W → Prop) (ret : Option FieldType) (mc ms : Nat) : Prop := match X with
  | (_, _, _, _, s, _, args, below, meth, _, Q, D, _, A) => meth.sig.returnType = ret ∧ Q = vx_MQ below (mQ Φ D A) (mX Ψ D A) args s mc ms A
def mlv (as : List Value) : List (Nat × Option Value) := (lv_args 0 as).map fun q => (q.1, some q.2)
theorem lget_mem {l : List (Nat × Value)} {i : Nat} {v : Value} (h : lget (l.map fun q => (q.1, some q.2)) i = some v) : (i, v) ∈ l := by
  induction l with
  | nil => simp [lget] at h
  | cons a r ih =>
    obtain ⟨j, w⟩ := a
    by_cases e : j = i
    · subst e
      have hw : some w = some v := by simpa [lget] using h
      cases hw
      exact List.mem_cons_self
    · have hb : Nat.beq j i = false := by
        cases hbe : Nat.beq j i
        · rfl
        · exact absurd (Nat.eq_of_beq_eq_true hbe) e
      exact List.mem_cons_of_mem _ (ih (by simpa [lget, hb] using h))
/-- a method's body, of any class whose method has no row in the table of natives -/
theorem vx_ofWF {l : Launch} {y : MethodName} {ws ws' : List Cond} {rm : Room} {Pc : Array Value → State → Prop} {Qc : Array Value → State → Outcome → State → Prop} {XC : String → State → State → Prop} {mc ms : Nat} {free : Addr → Prop} {cc : ByteArray} {maxL : Nat} {ret : Option FieldType}
    (hy : plainFor y = true) (hw : ws = Cond.code y cc maxL ret :: ws')
    (body : ∀ p e s m args below meth c s₁, BodyLoose p l y (headSpec ws rm) cc maxL ret e s m args below meth c s₁ → c.maxLocals = maxL → (∀ x ∈ c.exceptionTable.toList, False) → Pc args s →
      W p l e (headSpec ws rm).room s m args below meth c s.heap [] 0 0 (vx_MQ below Qc XC args s mc ms free) (entryFrame m args maxL)) : vx_Met l y ws rm Pc Qc XC mc ms free := by
  refine MetFree.of_bodySF (code := cc) (maxLocals := maxL) (ret := ret) hy ?_ ?_
  · intro args s m h hn
    obtain ⟨meth, c, h1, h2, h3, h4, h5, h6, -, -⟩ := Cond.code_spec hn (atoms_spec (ws := ws) h _ (by rw [hw]; exact List.mem_cons_self))
    exact ⟨meth, c, h1, h2, h3, h4, h5, h6⟩
  · intro p e s m args below meth c s₁ B hml hP _
    have hh0 : s₁.heap = s.heap := by rw [B.state]; rfl
    have ht : ∀ x ∈ c.exceptionTable.toList, False := by
      obtain ⟨meth9, c9, h1, h2, -, -, -, -, h7, -⟩ := Cond.code_spec B.named (atoms_spec (ws := ws) B.pre _ (by rw [hw]; exact List.mem_cons_self))
      cases Option.some.inj (h1.symm.trans B.method)
      cases Option.some.inj (h2.symm.trans (Stand.of_body B).code)
      intro x hx
      rw [Array.isEmpty_iff.mp h7] at hx
      cases hx
    obtain ⟨t, a1, o, b1, b2, b3⟩ := body p e s m args below meth c s₁ B hml ht hP s₁ hh0 (Stand.of_body B)
    exact ⟨t, o, a1, b1, b2, b3⟩
theorem mCt.of {tys : List (ClassId × FieldType)} {y : MethodName} {cc : ByteArray} {nL : Nat} {ret : Option FieldType} {rm : Room} {as : List Value} {ws : va_W} {Φ : Option Value → va_W → Prop} {Ψ : String → va_W → Prop} (hy : plainFor y = true) (hlen : (lg_sl as).length ≤ nL)
    (body : ∀ X, mOK X y.cls cc nL rm [] tys → mE X Φ Ψ ret rm.cells rm.slots → mV X 0 (mlv as) [] ws 0 0) : mCt tys y cc nL ret rm as ws Φ Ψ := by
  intro l D A hst
  refine vx_ofWF (cc := cc) (maxL := nL) (ret := ret) hy rfl ?_
  intro p e s m args below meth c s₁ B hml ht hv
  obtain ⟨rfl, hP, hD, hK, hA, hs⟩ := hv
  have hts := atoms_spec (ws := Cond.code y cc nL ret :: mW) B.pre
  have htab : c.exceptionTable.toList = tableOf [] := List.eq_nil_iff_forall_not_mem.mpr (fun x hx => ht x hx)
  have h0 := body (p, l, e, _, s, m, _, below, meth, c, _, D, tys, A) ⟨B.exec, B.bytes, hml, rfl, findClass_of_methodNamed B.named, fun w hw => hts w (List.mem_cons_of_mem _ hw), hK, rfl, B.notSynchronized, hA, hs, hst, htab⟩ ⟨B.returns, rfl⟩
  have hl := lv_entry as hlen
  rw [lg_entry_eq]
  exact h0 s.heap [] _ hP hD va_S.rf ⟨hl.1.trans hml.symm, hl.2.1, fun i v h => hl.2.2 (i, v) (lget_mem h)⟩
theorem mCh.of {tys : List (ClassId × FieldType)} {y : MethodName} {cc : ByteArray} {nL : Nat} {ret : Option FieldType} {hh : List (Nat × Nat × Nat × Nat)} {rm : Room} {as : List Value} {ws : va_W} {Φ : Option Value → va_W → Prop} (hy : plainName y.cls = true) (hlen : (lg_sl as).length ≤ nL)
    (body : ∀ X, mOK X y.cls cc nL rm hh tys → mE X Φ (fun _ _ => False) ret rm.cells rm.slots → mV X 0 (mlv as) [] ws 0 0) : mCh tys y cc nL ret hh rm as ws Φ := by
  intro l D A hst
  refine vx_ofWH (cc := cc) (maxL := nL) (ret := ret) (hh := hh) hy rfl ?_
  intro p e s m args below meth c s₁ B hml hv
  obtain ⟨rfl, hP, hD, hK, hA, hs⟩ := hv
  have hts := atoms_spec (ws := Cond.codeWith y cc nL ret hh :: mW) B.pre
  have htab : c.exceptionTable.toList = tableOf hh := vx_table (x := y) B (hts _ List.mem_cons_self)
  have h0 := body (p, l, e, _, s, m, _, below, meth, c, _, D, tys, A) ⟨B.exec, B.bytes, hml, rfl, findClass_of_methodNamed B.named, fun w hw => hts w (List.mem_cons_of_mem _ hw), hK, rfl, B.notSynchronized, hA, hs, hst, htab⟩ ⟨B.returns, rfl⟩
  have hl := lv_entry as hlen
  rw [lg_entry_eq]
  exact h0 s.heap [] _ hP hD va_S.rf ⟨hl.1.trans hml.symm, hl.2.1, fun i v h => hl.2.2 (i, v) (lget_mem h)⟩
/-- the method is a constructor -/
def mIni (X : mC) : Prop := match X with
  | (_, _, _, _, _, _, _, _, meth, _, _, _, _, _) => meth.name = "<init>"
section MR
variable {X : mC} {own : String} {cc : ByteArray} {nL : Nat} {R : Room} {hh : List (Nat × Nat × Nat × Nat)} {tys : List (ClassId × FieldType)} {pc : Nat} {lv : List (Nat × Option Value)} {st : List Value} {ws : va_W} {k n : Nat}
variable {Φ : Option Value → va_W → Prop} {Ψ : String → va_W → Prop} {mc ms : Nat} {ret : Option FieldType}

theorem r_iconst {z : Int} {v : Int32} (hX : mOK X own cc nL R hh tys) (hd : decode cc pc = .ok (.iconst z, 1)) (hv : Int32.ofInt z = v) (kk : mV X (pc + 1) lv (.int v :: st) ws k n) : mV X pc lv (st) ws k n := by
  obtain ⟨p, l, e, R', s, m, args, below, meth, c, Q, D, tys', A⟩ := X
  obtain ⟨hx, hb, hml, hR, hown, hts, hK, hty, hlk, hA, hst, hlt, htab⟩ := hX
  exact fun H locs ls hP hD hS hl => lv_iconst hx hb hd hv (kk H locs ls hP hD hS hl)

theorem r_bipush {z : Int} {v : Int32} (hX : mOK X own cc nL R hh tys) (hd : decode cc pc = .ok (.bipush z, 2)) (hv : (Int8.ofInt z).toInt32 = v) (kk : mV X (pc + 2) lv (.int v :: st) ws k n) : mV X pc lv (st) ws k n := by
  obtain ⟨p, l, e, R', s, m, args, below, meth, c, Q, D, tys', A⟩ := X
  obtain ⟨hx, hb, hml, hR, hown, hts, hK, hty, hlk, hA, hst, hlt, htab⟩ := hX
  exact fun H locs ls hP hD hS hl => lv_bipush hx hb hd hv (kk H locs ls hP hD hS hl)

theorem r_sipush {z : Int} {v : Int32} (hX : mOK X own cc nL R hh tys) (hd : decode cc pc = .ok (.sipush z, 3)) (hv : (Int16.ofInt z).toInt32 = v) (kk : mV X (pc + 3) lv (.int v :: st) ws k n) : mV X pc lv (st) ws k n := by
  obtain ⟨p, l, e, R', s, m, args, below, meth, c, Q, D, tys', A⟩ := X
  obtain ⟨hx, hb, hml, hR, hown, hts, hK, hty, hlk, hA, hst, hlt, htab⟩ := hX
  exact fun H locs ls hP hD hS hl => lv_sipush hx hb hd hv (kk H locs ls hP hD hS hl)

theorem r_lconst {z : Fin 2} {v : Int64} (hX : mOK X own cc nL R hh tys) (hd : decode cc pc = .ok (.lconst z, 1)) (hv : Int64.ofNat (z : Nat) = v) (kk : mV X (pc + 1) lv (.long v :: st) ws k n) : mV X pc lv (st) ws k n := by
  obtain ⟨p, l, e, R', s, m, args, below, meth, c, Q, D, tys', A⟩ := X
  obtain ⟨hx, hb, hml, hR, hown, hts, hK, hty, hlk, hA, hst, hlt, htab⟩ := hX
  exact fun H locs ls hP hD hS hl => lv_lconst hx hb hd hv (kk H locs ls hP hD hS hl)

theorem r_iload_n {j : Fin 4} {i : Nat} {x : Int32} (hX : mOK X own cc nL R hh tys) (hd : decode cc pc = .ok (.iload_n j, 1)) (hi : (j : Nat) = i) (hg : lget lv i = some (.int x)) (kk : mV X (pc + 1) lv (.int x :: st) ws k n) : mV X pc lv (st) ws k n := by
  obtain ⟨p, l, e, R', s, m, args, below, meth, c, Q, D, tys', A⟩ := X
  obtain ⟨hx, hb, hml, hR, hown, hts, hK, hty, hlk, hA, hst, hlt, htab⟩ := hX
  exact fun H locs ls hP hD hS hl => lv_iload_n hx hb hd hi (hl.2.2 i _ hg) (kk H locs ls hP hD hS hl)

theorem r_iload {i : Nat} {x : Int32} (hX : mOK X own cc nL R hh tys) (hd : decode cc pc = .ok (.iload i, 2)) (hg : lget lv i = some (.int x)) (kk : mV X (pc + 2) lv (.int x :: st) ws k n) : mV X pc lv (st) ws k n := by
  obtain ⟨p, l, e, R', s, m, args, below, meth, c, Q, D, tys', A⟩ := X
  obtain ⟨hx, hb, hml, hR, hown, hts, hK, hty, hlk, hA, hst, hlt, htab⟩ := hX
  exact fun H locs ls hP hD hS hl => lv_iload hx hb hd (hl.2.2 i _ hg) (kk H locs ls hP hD hS hl)

theorem r_lload_n {j : Fin 4} {i : Nat} {x : Int64} (hX : mOK X own cc nL R hh tys) (hd : decode cc pc = .ok (.lload_n j, 1)) (hi : (j : Nat) = i) (hg : lget lv i = some (.long x)) (kk : mV X (pc + 1) lv (.long x :: st) ws k n) : mV X pc lv (st) ws k n := by
  obtain ⟨p, l, e, R', s, m, args, below, meth, c, Q, D, tys', A⟩ := X
  obtain ⟨hx, hb, hml, hR, hown, hts, hK, hty, hlk, hA, hst, hlt, htab⟩ := hX
  exact fun H locs ls hP hD hS hl => lv_lload_n hx hb hd hi (hl.2.2 i _ hg) (kk H locs ls hP hD hS hl)

theorem r_lload {i : Nat} {x : Int64} (hX : mOK X own cc nL R hh tys) (hd : decode cc pc = .ok (.lload i, 2)) (hg : lget lv i = some (.long x)) (kk : mV X (pc + 2) lv (.long x :: st) ws k n) : mV X pc lv (st) ws k n := by
  obtain ⟨p, l, e, R', s, m, args, below, meth, c, Q, D, tys', A⟩ := X
  obtain ⟨hx, hb, hml, hR, hown, hts, hK, hty, hlk, hA, hst, hlt, htab⟩ := hX
  exact fun H locs ls hP hD hS hl => lv_lload hx hb hd (hl.2.2 i _ hg) (kk H locs ls hP hD hS hl)

theorem r_aload_n {j : Fin 4} {i : Nat} {x : Nat} (hX : mOK X own cc nL R hh tys) (hd : decode cc pc = .ok (.aload_n j, 1)) (hi : (j : Nat) = i) (hg : lget lv i = some (.ref x)) (kk : mV X (pc + 1) lv (.ref x :: st) ws k n) : mV X pc lv (st) ws k n := by
  obtain ⟨p, l, e, R', s, m, args, below, meth, c, Q, D, tys', A⟩ := X
  obtain ⟨hx, hb, hml, hR, hown, hts, hK, hty, hlk, hA, hst, hlt, htab⟩ := hX
  exact fun H locs ls hP hD hS hl => lv_aload_n hx hb hd hi (hl.2.2 i _ hg) (kk H locs ls hP hD hS hl)

theorem r_aload {i : Nat} {x : Nat} (hX : mOK X own cc nL R hh tys) (hd : decode cc pc = .ok (.aload i, 2)) (hg : lget lv i = some (.ref x)) (kk : mV X (pc + 2) lv (.ref x :: st) ws k n) : mV X pc lv (st) ws k n := by
  obtain ⟨p, l, e, R', s, m, args, below, meth, c, Q, D, tys', A⟩ := X
  obtain ⟨hx, hb, hml, hR, hown, hts, hK, hty, hlk, hA, hst, hlt, htab⟩ := hX
  exact fun H locs ls hP hD hS hl => lv_aload hx hb hd (hl.2.2 i _ hg) (kk H locs ls hP hD hS hl)

theorem r_iadd {x y : Int32} (hX : mOK X own cc nL R hh tys) (hd : decode cc pc = .ok (.iadd, 1))  (kk : mV X (pc + 1) lv (.int (x + y) :: st) ws k n) : mV X pc lv (.int y :: .int x :: st) ws k n := by
  obtain ⟨p, l, e, R', s, m, args, below, meth, c, Q, D, tys', A⟩ := X
  obtain ⟨hx, hb, hml, hR, hown, hts, hK, hty, hlk, hA, hst, hlt, htab⟩ := hX
  exact fun H locs ls hP hD hS hl => lv_iadd hx hb hd  (kk H locs ls hP hD hS hl)

theorem r_ladd {x y : Int64} (hX : mOK X own cc nL R hh tys) (hd : decode cc pc = .ok (.ladd, 1))  (kk : mV X (pc + 1) lv (.long (x + y) :: st) ws k n) : mV X pc lv (.long y :: .long x :: st) ws k n := by
  obtain ⟨p, l, e, R', s, m, args, below, meth, c, Q, D, tys', A⟩ := X
  obtain ⟨hx, hb, hml, hR, hown, hts, hK, hty, hlk, hA, hst, hlt, htab⟩ := hX
  exact fun H locs ls hP hD hS hl => lv_ladd hx hb hd  (kk H locs ls hP hD hS hl)

theorem r_isub {x y : Int32} (hX : mOK X own cc nL R hh tys) (hd : decode cc pc = .ok (.isub, 1))  (kk : mV X (pc + 1) lv (.int (x - y) :: st) ws k n) : mV X pc lv (.int y :: .int x :: st) ws k n := by
  obtain ⟨p, l, e, R', s, m, args, below, meth, c, Q, D, tys', A⟩ := X
  obtain ⟨hx, hb, hml, hR, hown, hts, hK, hty, hlk, hA, hst, hlt, htab⟩ := hX
  exact fun H locs ls hP hD hS hl => lv_isub hx hb hd  (kk H locs ls hP hD hS hl)

theorem r_lsub {x y : Int64} (hX : mOK X own cc nL R hh tys) (hd : decode cc pc = .ok (.lsub, 1))  (kk : mV X (pc + 1) lv (.long (x - y) :: st) ws k n) : mV X pc lv (.long y :: .long x :: st) ws k n := by
  obtain ⟨p, l, e, R', s, m, args, below, meth, c, Q, D, tys', A⟩ := X
  obtain ⟨hx, hb, hml, hR, hown, hts, hK, hty, hlk, hA, hst, hlt, htab⟩ := hX
  exact fun H locs ls hP hD hS hl => lv_lsub hx hb hd  (kk H locs ls hP hD hS hl)

theorem r_imul {x y : Int32} (hX : mOK X own cc nL R hh tys) (hd : decode cc pc = .ok (.imul, 1))  (kk : mV X (pc + 1) lv (.int (x * y) :: st) ws k n) : mV X pc lv (.int y :: .int x :: st) ws k n := by
  obtain ⟨p, l, e, R', s, m, args, below, meth, c, Q, D, tys', A⟩ := X
  obtain ⟨hx, hb, hml, hR, hown, hts, hK, hty, hlk, hA, hst, hlt, htab⟩ := hX
  exact fun H locs ls hP hD hS hl => lv_imul hx hb hd  (kk H locs ls hP hD hS hl)

theorem r_lmul {x y : Int64} (hX : mOK X own cc nL R hh tys) (hd : decode cc pc = .ok (.lmul, 1))  (kk : mV X (pc + 1) lv (.long (x * y) :: st) ws k n) : mV X pc lv (.long y :: .long x :: st) ws k n := by
  obtain ⟨p, l, e, R', s, m, args, below, meth, c, Q, D, tys', A⟩ := X
  obtain ⟨hx, hb, hml, hR, hown, hts, hK, hty, hlk, hA, hst, hlt, htab⟩ := hX
  exact fun H locs ls hP hD hS hl => lv_lmul hx hb hd  (kk H locs ls hP hD hS hl)

theorem r_idiv {x y : Int32} (hX : mOK X own cc nL R hh tys) (hd : decode cc pc = .ok (.idiv, 1)) (hne : ¬ y = 0) (kk : mV X (pc + 1) lv (.int (x / y) :: st) ws k n) : mV X pc lv (.int y :: .int x :: st) ws k n := by
  obtain ⟨p, l, e, R', s, m, args, below, meth, c, Q, D, tys', A⟩ := X
  obtain ⟨hx, hb, hml, hR, hown, hts, hK, hty, hlk, hA, hst, hlt, htab⟩ := hX
  exact fun H locs ls hP hD hS hl => lv_idiv hx hb hd hne (kk H locs ls hP hD hS hl)

theorem r_ldiv {x y : Int64} (hX : mOK X own cc nL R hh tys) (hd : decode cc pc = .ok (.ldiv, 1)) (hne : ¬ y = 0) (kk : mV X (pc + 1) lv (.long (x / y) :: st) ws k n) : mV X pc lv (.long y :: .long x :: st) ws k n := by
  obtain ⟨p, l, e, R', s, m, args, below, meth, c, Q, D, tys', A⟩ := X
  obtain ⟨hx, hb, hml, hR, hown, hts, hK, hty, hlk, hA, hst, hlt, htab⟩ := hX
  exact fun H locs ls hP hD hS hl => lv_ldiv hx hb hd hne (kk H locs ls hP hD hS hl)

theorem r_irem {x y : Int32} (hX : mOK X own cc nL R hh tys) (hd : decode cc pc = .ok (.irem, 1)) (hne : ¬ y = 0) (kk : mV X (pc + 1) lv (.int (x - x / y * y) :: st) ws k n) : mV X pc lv (.int y :: .int x :: st) ws k n := by
  obtain ⟨p, l, e, R', s, m, args, below, meth, c, Q, D, tys', A⟩ := X
  obtain ⟨hx, hb, hml, hR, hown, hts, hK, hty, hlk, hA, hst, hlt, htab⟩ := hX
  exact fun H locs ls hP hD hS hl => lv_irem hx hb hd hne (kk H locs ls hP hD hS hl)

theorem r_lrem {x y : Int64} (hX : mOK X own cc nL R hh tys) (hd : decode cc pc = .ok (.lrem, 1)) (hne : ¬ y = 0) (kk : mV X (pc + 1) lv (.long (x - x / y * y) :: st) ws k n) : mV X pc lv (.long y :: .long x :: st) ws k n := by
  obtain ⟨p, l, e, R', s, m, args, below, meth, c, Q, D, tys', A⟩ := X
  obtain ⟨hx, hb, hml, hR, hown, hts, hK, hty, hlk, hA, hst, hlt, htab⟩ := hX
  exact fun H locs ls hP hD hS hl => lv_lrem hx hb hd hne (kk H locs ls hP hD hS hl)

theorem r_iand {x y : Int32} (hX : mOK X own cc nL R hh tys) (hd : decode cc pc = .ok (.iand, 1))  (kk : mV X (pc + 1) lv (.int (x &&& y) :: st) ws k n) : mV X pc lv (.int y :: .int x :: st) ws k n := by
  obtain ⟨p, l, e, R', s, m, args, below, meth, c, Q, D, tys', A⟩ := X
  obtain ⟨hx, hb, hml, hR, hown, hts, hK, hty, hlk, hA, hst, hlt, htab⟩ := hX
  exact fun H locs ls hP hD hS hl => lv_iand hx hb hd  (kk H locs ls hP hD hS hl)

theorem r_ineg {x : Int32} (hX : mOK X own cc nL R hh tys) (hd : decode cc pc = .ok (.ineg, 1))  (kk : mV X (pc + 1) lv (.int (-x) :: st) ws k n) : mV X pc lv (.int x :: st) ws k n := by
  obtain ⟨p, l, e, R', s, m, args, below, meth, c, Q, D, tys', A⟩ := X
  obtain ⟨hx, hb, hml, hR, hown, hts, hK, hty, hlk, hA, hst, hlt, htab⟩ := hX
  exact fun H locs ls hP hD hS hl => lv_ineg hx hb hd  (kk H locs ls hP hD hS hl)

theorem r_lneg {x : Int64} (hX : mOK X own cc nL R hh tys) (hd : decode cc pc = .ok (.lneg, 1))  (kk : mV X (pc + 1) lv (.long (-x) :: st) ws k n) : mV X pc lv (.long x :: st) ws k n := by
  obtain ⟨p, l, e, R', s, m, args, below, meth, c, Q, D, tys', A⟩ := X
  obtain ⟨hx, hb, hml, hR, hown, hts, hK, hty, hlk, hA, hst, hlt, htab⟩ := hX
  exact fun H locs ls hP hD hS hl => lv_lneg hx hb hd  (kk H locs ls hP hD hS hl)

theorem r_i2l {x : Int32} (hX : mOK X own cc nL R hh tys) (hd : decode cc pc = .ok (.i2l, 1))  (kk : mV X (pc + 1) lv (.long x.toInt64 :: st) ws k n) : mV X pc lv (.int x :: st) ws k n := by
  obtain ⟨p, l, e, R', s, m, args, below, meth, c, Q, D, tys', A⟩ := X
  obtain ⟨hx, hb, hml, hR, hown, hts, hK, hty, hlk, hA, hst, hlt, htab⟩ := hX
  exact fun H locs ls hP hD hS hl => lv_i2l hx hb hd rfl (kk H locs ls hP hD hS hl)

theorem r_l2i {x : Int64} (hX : mOK X own cc nL R hh tys) (hd : decode cc pc = .ok (.l2i, 1))  (kk : mV X (pc + 1) lv (.int x.toInt32 :: st) ws k n) : mV X pc lv (.long x :: st) ws k n := by
  obtain ⟨p, l, e, R', s, m, args, below, meth, c, Q, D, tys', A⟩ := X
  obtain ⟨hx, hb, hml, hR, hown, hts, hK, hty, hlk, hA, hst, hlt, htab⟩ := hX
  exact fun H locs ls hP hD hS hl => lv_l2i hx hb hd rfl (kk H locs ls hP hD hS hl)

theorem r_lcmp {x y : Int64} (hX : mOK X own cc nL R hh tys) (hd : decode cc pc = .ok (.lcmp, 1))  (kk : mV X (pc + 1) lv (.int (lg_cmp x y) :: st) ws k n) : mV X pc lv (.long y :: .long x :: st) ws k n := by
  obtain ⟨p, l, e, R', s, m, args, below, meth, c, Q, D, tys', A⟩ := X
  obtain ⟨hx, hb, hml, hR, hown, hts, hK, hty, hlk, hA, hst, hlt, htab⟩ := hX
  exact fun H locs ls hP hD hS hl => W.lcmp hx hb hd  (kk H locs ls hP hD hS hl)

theorem r_dup {v : Value} (hX : mOK X own cc nL R hh tys) (hd : decode cc pc = .ok (.dup, 1)) (hc : v.category = 1) (kk : mV X (pc + 1) lv (v :: v :: st) ws k n) : mV X pc lv (v :: st) ws k n := by
  obtain ⟨p, l, e, R', s, m, args, below, meth, c, Q, D, tys', A⟩ := X
  obtain ⟨hx, hb, hml, hR, hown, hts, hK, hty, hlk, hA, hst, hlt, htab⟩ := hX
  exact fun H locs ls hP hD hS hl => lv_dup hx hb hd hc (kk H locs ls hP hD hS hl)

theorem r_pop {v : Value} (hX : mOK X own cc nL R hh tys) (hd : decode cc pc = .ok (.pop, 1)) (hc : v.category = 1) (kk : mV X (pc + 1) lv (st) ws k n) : mV X pc lv (v :: st) ws k n := by
  obtain ⟨p, l, e, R', s, m, args, below, meth, c, Q, D, tys', A⟩ := X
  obtain ⟨hx, hb, hml, hR, hown, hts, hK, hty, hlk, hA, hst, hlt, htab⟩ := hX
  exact fun H locs ls hP hD hS hl => lv_pop hx hb hd hc (kk H locs ls hP hD hS hl)

theorem r_pop2 {v : Value} (hX : mOK X own cc nL R hh tys) (hd : decode cc pc = .ok (.pop2, 1)) (hc : v.category = 2) (kk : mV X (pc + 1) lv (st) ws k n) : mV X pc lv (v :: st) ws k n := by
  obtain ⟨p, l, e, R', s, m, args, below, meth, c, Q, D, tys', A⟩ := X
  obtain ⟨hx, hb, hml, hR, hown, hts, hK, hty, hlk, hA, hst, hlt, htab⟩ := hX
  exact fun H locs ls hP hD hS hl => lv_pop2_2 hx hb hd hc (kk H locs ls hP hD hS hl)

theorem r_if_eq {x : Int32} {off : Int} {tgt : Nat} (hX : mOK X own cc nL R hh tys) (hd : decode cc pc = .ok (.ifCond .eq off, 3)) (ht : (pc : Int) + off = (tgt : Int)) (kt : x = 0 → mV X tgt lv st ws k n) (kf : ¬ (x = 0) → mV X (pc + 3) lv st ws k n) : mV X pc lv (.int x :: st) ws k n := by
  obtain ⟨p, l, e, R', s, m, args, below, meth, c, Q, D, tys', A⟩ := X
  obtain ⟨hx, hb, hml, hR, hown, hts, hK, hty, hlk, hA, hst, hlt, htab⟩ := hX
  exact fun H locs ls hP hD hS hl => lv_if_eq hx hb hd ht (fun q => kt (by simpa using q) H locs ls hP hD hS hl) (fun q => kf (by simpa using q) H locs ls hP hD hS hl)

theorem r_if_ne {x : Int32} {off : Int} {tgt : Nat} (hX : mOK X own cc nL R hh tys) (hd : decode cc pc = .ok (.ifCond .ne off, 3)) (ht : (pc : Int) + off = (tgt : Int)) (kt : ¬ x = 0 → mV X tgt lv st ws k n) (kf : ¬ (¬ x = 0) → mV X (pc + 3) lv st ws k n) : mV X pc lv (.int x :: st) ws k n := by
  obtain ⟨p, l, e, R', s, m, args, below, meth, c, Q, D, tys', A⟩ := X
  obtain ⟨hx, hb, hml, hR, hown, hts, hK, hty, hlk, hA, hst, hlt, htab⟩ := hX
  exact fun H locs ls hP hD hS hl => lv_if_ne hx hb hd ht (fun q => kt (by simpa using q) H locs ls hP hD hS hl) (fun q => kf (by simpa using q) H locs ls hP hD hS hl)

theorem r_if_lt {x : Int32} {off : Int} {tgt : Nat} (hX : mOK X own cc nL R hh tys) (hd : decode cc pc = .ok (.ifCond .lt off, 3)) (ht : (pc : Int) + off = (tgt : Int)) (kt : x < 0 → mV X tgt lv st ws k n) (kf : ¬ (x < 0) → mV X (pc + 3) lv st ws k n) : mV X pc lv (.int x :: st) ws k n := by
  obtain ⟨p, l, e, R', s, m, args, below, meth, c, Q, D, tys', A⟩ := X
  obtain ⟨hx, hb, hml, hR, hown, hts, hK, hty, hlk, hA, hst, hlt, htab⟩ := hX
  exact fun H locs ls hP hD hS hl => lv_if_lt hx hb hd ht (fun q => kt (by simpa using q) H locs ls hP hD hS hl) (fun q => kf (by simpa using q) H locs ls hP hD hS hl)

theorem r_if_ge {x : Int32} {off : Int} {tgt : Nat} (hX : mOK X own cc nL R hh tys) (hd : decode cc pc = .ok (.ifCond .ge off, 3)) (ht : (pc : Int) + off = (tgt : Int)) (kt : 0 ≤ x → mV X tgt lv st ws k n) (kf : ¬ (0 ≤ x) → mV X (pc + 3) lv st ws k n) : mV X pc lv (.int x :: st) ws k n := by
  obtain ⟨p, l, e, R', s, m, args, below, meth, c, Q, D, tys', A⟩ := X
  obtain ⟨hx, hb, hml, hR, hown, hts, hK, hty, hlk, hA, hst, hlt, htab⟩ := hX
  exact fun H locs ls hP hD hS hl => lv_if_ge hx hb hd ht (fun q => kt (by simpa using q) H locs ls hP hD hS hl) (fun q => kf (by simpa using q) H locs ls hP hD hS hl)

theorem r_if_gt {x : Int32} {off : Int} {tgt : Nat} (hX : mOK X own cc nL R hh tys) (hd : decode cc pc = .ok (.ifCond .gt off, 3)) (ht : (pc : Int) + off = (tgt : Int)) (kt : 0 < x → mV X tgt lv st ws k n) (kf : ¬ (0 < x) → mV X (pc + 3) lv st ws k n) : mV X pc lv (.int x :: st) ws k n := by
  obtain ⟨p, l, e, R', s, m, args, below, meth, c, Q, D, tys', A⟩ := X
  obtain ⟨hx, hb, hml, hR, hown, hts, hK, hty, hlk, hA, hst, hlt, htab⟩ := hX
  exact fun H locs ls hP hD hS hl => lv_if_gt hx hb hd ht (fun q => kt (by simpa using q) H locs ls hP hD hS hl) (fun q => kf (by simpa using q) H locs ls hP hD hS hl)

theorem r_if_le {x : Int32} {off : Int} {tgt : Nat} (hX : mOK X own cc nL R hh tys) (hd : decode cc pc = .ok (.ifCond .le off, 3)) (ht : (pc : Int) + off = (tgt : Int)) (kt : x ≤ 0 → mV X tgt lv st ws k n) (kf : ¬ (x ≤ 0) → mV X (pc + 3) lv st ws k n) : mV X pc lv (.int x :: st) ws k n := by
  obtain ⟨p, l, e, R', s, m, args, below, meth, c, Q, D, tys', A⟩ := X
  obtain ⟨hx, hb, hml, hR, hown, hts, hK, hty, hlk, hA, hst, hlt, htab⟩ := hX
  exact fun H locs ls hP hD hS hl => lv_if_le hx hb hd ht (fun q => kt (by simpa using q) H locs ls hP hD hS hl) (fun q => kf (by simpa using q) H locs ls hP hD hS hl)

theorem r_icmp_eq {x y : Int32} {off : Int} {tgt : Nat} (hX : mOK X own cc nL R hh tys) (hd : decode cc pc = .ok (.if_icmp .eq off, 3)) (ht : (pc : Int) + off = (tgt : Int)) (kt : x = y → mV X tgt lv st ws k n) (kf : ¬ (x = y) → mV X (pc + 3) lv st ws k n) : mV X pc lv (.int y :: .int x :: st) ws k n := by
  obtain ⟨p, l, e, R', s, m, args, below, meth, c, Q, D, tys', A⟩ := X
  obtain ⟨hx, hb, hml, hR, hown, hts, hK, hty, hlk, hA, hst, hlt, htab⟩ := hX
  exact fun H locs ls hP hD hS hl => lv_icmp_eq hx hb hd ht (fun q => kt (by simpa using q) H locs ls hP hD hS hl) (fun q => kf (by simpa using q) H locs ls hP hD hS hl)

theorem r_icmp_ne {x y : Int32} {off : Int} {tgt : Nat} (hX : mOK X own cc nL R hh tys) (hd : decode cc pc = .ok (.if_icmp .ne off, 3)) (ht : (pc : Int) + off = (tgt : Int)) (kt : ¬ x = y → mV X tgt lv st ws k n) (kf : ¬ (¬ x = y) → mV X (pc + 3) lv st ws k n) : mV X pc lv (.int y :: .int x :: st) ws k n := by
  obtain ⟨p, l, e, R', s, m, args, below, meth, c, Q, D, tys', A⟩ := X
  obtain ⟨hx, hb, hml, hR, hown, hts, hK, hty, hlk, hA, hst, hlt, htab⟩ := hX
  exact fun H locs ls hP hD hS hl => lv_icmp_ne hx hb hd ht (fun q => kt (by simpa using q) H locs ls hP hD hS hl) (fun q => kf (by simpa using q) H locs ls hP hD hS hl)

theorem r_icmp_lt {x y : Int32} {off : Int} {tgt : Nat} (hX : mOK X own cc nL R hh tys) (hd : decode cc pc = .ok (.if_icmp .lt off, 3)) (ht : (pc : Int) + off = (tgt : Int)) (kt : x < y → mV X tgt lv st ws k n) (kf : ¬ (x < y) → mV X (pc + 3) lv st ws k n) : mV X pc lv (.int y :: .int x :: st) ws k n := by
  obtain ⟨p, l, e, R', s, m, args, below, meth, c, Q, D, tys', A⟩ := X
  obtain ⟨hx, hb, hml, hR, hown, hts, hK, hty, hlk, hA, hst, hlt, htab⟩ := hX
  exact fun H locs ls hP hD hS hl => lv_icmp_lt hx hb hd ht (fun q => kt (by simpa using q) H locs ls hP hD hS hl) (fun q => kf (by simpa using q) H locs ls hP hD hS hl)

theorem r_icmp_ge {x y : Int32} {off : Int} {tgt : Nat} (hX : mOK X own cc nL R hh tys) (hd : decode cc pc = .ok (.if_icmp .ge off, 3)) (ht : (pc : Int) + off = (tgt : Int)) (kt : y ≤ x → mV X tgt lv st ws k n) (kf : ¬ (y ≤ x) → mV X (pc + 3) lv st ws k n) : mV X pc lv (.int y :: .int x :: st) ws k n := by
  obtain ⟨p, l, e, R', s, m, args, below, meth, c, Q, D, tys', A⟩ := X
  obtain ⟨hx, hb, hml, hR, hown, hts, hK, hty, hlk, hA, hst, hlt, htab⟩ := hX
  exact fun H locs ls hP hD hS hl => lv_icmp_ge hx hb hd ht (fun q => kt (by simpa using q) H locs ls hP hD hS hl) (fun q => kf (by simpa using q) H locs ls hP hD hS hl)

theorem r_icmp_gt {x y : Int32} {off : Int} {tgt : Nat} (hX : mOK X own cc nL R hh tys) (hd : decode cc pc = .ok (.if_icmp .gt off, 3)) (ht : (pc : Int) + off = (tgt : Int)) (kt : y < x → mV X tgt lv st ws k n) (kf : ¬ (y < x) → mV X (pc + 3) lv st ws k n) : mV X pc lv (.int y :: .int x :: st) ws k n := by
  obtain ⟨p, l, e, R', s, m, args, below, meth, c, Q, D, tys', A⟩ := X
  obtain ⟨hx, hb, hml, hR, hown, hts, hK, hty, hlk, hA, hst, hlt, htab⟩ := hX
  exact fun H locs ls hP hD hS hl => lv_icmp_gt hx hb hd ht (fun q => kt (by simpa using q) H locs ls hP hD hS hl) (fun q => kf (by simpa using q) H locs ls hP hD hS hl)

theorem r_icmp_le {x y : Int32} {off : Int} {tgt : Nat} (hX : mOK X own cc nL R hh tys) (hd : decode cc pc = .ok (.if_icmp .le off, 3)) (ht : (pc : Int) + off = (tgt : Int)) (kt : x ≤ y → mV X tgt lv st ws k n) (kf : ¬ (x ≤ y) → mV X (pc + 3) lv st ws k n) : mV X pc lv (.int y :: .int x :: st) ws k n := by
  obtain ⟨p, l, e, R', s, m, args, below, meth, c, Q, D, tys', A⟩ := X
  obtain ⟨hx, hb, hml, hR, hown, hts, hK, hty, hlk, hA, hst, hlt, htab⟩ := hX
  exact fun H locs ls hP hD hS hl => lv_icmp_le hx hb hd ht (fun q => kt (by simpa using q) H locs ls hP hD hS hl) (fun q => kf (by simpa using q) H locs ls hP hD hS hl)

theorem r_goto {off : Int} {tgt : Nat} (hX : mOK X own cc nL R hh tys) (hd : decode cc pc = .ok (.goto off, 3)) (ht : (pc : Int) + off = (tgt : Int)) (kk : mV X tgt lv st ws k n) : mV X pc lv st ws k n := by
  obtain ⟨p, l, e, R', s, m, args, below, meth, c, Q, D, tys', A⟩ := X
  obtain ⟨hx, hb, hml, hR, hown, hts, hK, hty, hlk, hA, hst, hlt, htab⟩ := hX
  exact fun H locs ls hP hD hS hl => lv_goto hx hb hd ht (kk H locs ls hP hD hS hl)

theorem r_tableIn {x : Int32} {dflt lo hi off : Int} {offs : Array Int} {len tgt : Nat} (hX : mOK X own cc nL R hh tys) (hd : decode cc pc = .ok (.tableswitch dflt lo hi offs, len)) (h1 : ¬ x.toInt < lo) (h2 : ¬ hi < x.toInt) (ho : offs[(x.toInt - lo).toNat]? = some off) (ht : (pc : Int) + off = (tgt : Int)) (kk : mV X tgt lv st ws k n) : mV X pc lv (.int x :: st) ws k n := by
  obtain ⟨p, l, e, R', s, m, args, below, meth, c, Q, D, tys', A⟩ := X
  obtain ⟨hx, hb, hml, hR, hown, hts, hK, hty, hlk, hA, hst, hlt, htab⟩ := hX
  exact fun H locs ls hP hD hS hl => lv_tableIn hx hb hd h1 h2 ho ht (kk H locs ls hP hD hS hl)

theorem r_tableOut {x : Int32} {dflt lo hi : Int} {offs : Array Int} {len tgt : Nat} (hX : mOK X own cc nL R hh tys) (hd : decode cc pc = .ok (.tableswitch dflt lo hi offs, len)) (h : x.toInt < lo ∨ hi < x.toInt) (ht : (pc : Int) + dflt = (tgt : Int)) (kk : mV X tgt lv st ws k n) : mV X pc lv (.int x :: st) ws k n := by
  obtain ⟨p, l, e, R', s, m, args, below, meth, c, Q, D, tys', A⟩ := X
  obtain ⟨hx, hb, hml, hR, hown, hts, hK, hty, hlk, hA, hst, hlt, htab⟩ := hX
  exact fun H locs ls hP hD hS hl => lv_tableOut hx hb hd h ht (kk H locs ls hP hD hS hl)

theorem r_ldc {v : Int32} {idx : Nat} (hX : mOK X own cc nL R hh tys) (hc : Cond.constant own idx v ∈ mW) (hd : decode cc pc = .ok (.ldc idx, 2)) (kk : mV X (pc + 2) lv (.int v :: st) ws k n) : mV X pc lv st ws k n := by
  obtain ⟨p, l, e, R', s, m, args, below, meth, c, Q, D, tys', A⟩ := X
  obtain ⟨hx, hb, hml, hR, hown, hts, hK, hty, hlk, hA, hst, hlt, htab⟩ := hX
  exact fun H locs ls hP hD hS hl => lv_ldc hx hb hown (hts _ hc) hd (kk H locs ls hP hD hS hl)

theorem r_ldc2 {v : Int64} {idx : Nat} (hX : mOK X own cc nL R hh tys) (hc : Cond.constantLong own idx v ∈ mW) (hd : decode cc pc = .ok (.ldc2_w idx, 3)) (kk : mV X (pc + 3) lv (.long v :: st) ws k n) : mV X pc lv st ws k n := by
  obtain ⟨p, l, e, R', s, m, args, below, meth, c, Q, D, tys', A⟩ := X
  obtain ⟨hx, hb, hml, hR, hown, hts, hK, hty, hlk, hA, hst, hlt, htab⟩ := hX
  exact fun H locs ls hP hD hS hl => lv_ldc2 hx hb hown (hts _ hc) hd (kk H locs ls hP hD hS hl)

theorem r_istore_n {j : Fin 4} {i : Nat} {x : Int32} (hX : mOK X own cc nL R hh tys) (hd : decode cc pc = .ok (.istore_n j, 1)) (hi : (j : Nat) = i) (hn : i < nL) (hp : lgp lv i = true) (kk : mV X (pc + 1) ((i, some (.int x)) :: lv) st ws k n) : mV X pc lv (.int x :: st) ws k n := by
  obtain ⟨p, l, e, R', s, m, args, below, meth, c, Q, D, tys', A⟩ := X
  obtain ⟨hx, hb, hml, hR, hown, hts, hK, hty, hlk, hA, hst, hlt, htab⟩ := hX
  subst hi
  intro H locs ls hP hD hS hl
  obtain ⟨ls', e', h'⟩ := hl.st1 (v := .int x) (by rw [hml]; exact hn) rfl hp
  intro T hT Y
  obtain ⟨t, a, b⟩ := kk H locs ls' hP hD hS h' T hT Y
  refine ⟨t, ?_, b⟩
  jvm_step Y.here [Y.here.top, ↓top_set Y.here.top, hx, hb, hd, e']
  exact a

theorem r_istore {i : Nat} {x : Int32} (hX : mOK X own cc nL R hh tys) (hd : decode cc pc = .ok (.istore i, 2))  (hn : i < nL) (hp : lgp lv i = true) (kk : mV X (pc + 2) ((i, some (.int x)) :: lv) st ws k n) : mV X pc lv (.int x :: st) ws k n := by
  obtain ⟨p, l, e, R', s, m, args, below, meth, c, Q, D, tys', A⟩ := X
  obtain ⟨hx, hb, hml, hR, hown, hts, hK, hty, hlk, hA, hst, hlt, htab⟩ := hX
  intro H locs ls hP hD hS hl
  obtain ⟨ls', e', h'⟩ := hl.st1 (v := .int x) (by rw [hml]; exact hn) rfl hp
  intro T hT Y
  obtain ⟨t, a, b⟩ := kk H locs ls' hP hD hS h' T hT Y
  refine ⟨t, ?_, b⟩
  jvm_step Y.here [Y.here.top, ↓top_set Y.here.top, hx, hb, hd, e']
  exact a

theorem r_astore_n {j : Fin 4} {i : Nat} {x : Nat} (hX : mOK X own cc nL R hh tys) (hd : decode cc pc = .ok (.astore_n j, 1)) (hi : (j : Nat) = i) (hn : i < nL) (hp : lgp lv i = true) (kk : mV X (pc + 1) ((i, some (.ref x)) :: lv) st ws k n) : mV X pc lv (.ref x :: st) ws k n := by
  obtain ⟨p, l, e, R', s, m, args, below, meth, c, Q, D, tys', A⟩ := X
  obtain ⟨hx, hb, hml, hR, hown, hts, hK, hty, hlk, hA, hst, hlt, htab⟩ := hX
  subst hi
  intro H locs ls hP hD hS hl
  obtain ⟨ls', e', h'⟩ := hl.st1 (v := .ref x) (by rw [hml]; exact hn) rfl hp
  intro T hT Y
  obtain ⟨t, a, b⟩ := kk H locs ls' hP hD hS h' T hT Y
  refine ⟨t, ?_, b⟩
  jvm_step Y.here [Y.here.top, ↓top_set Y.here.top, hx, hb, hd, e', Value.isRef]
  exact a

theorem r_astore {i : Nat} {x : Nat} (hX : mOK X own cc nL R hh tys) (hd : decode cc pc = .ok (.astore i, 2))  (hn : i < nL) (hp : lgp lv i = true) (kk : mV X (pc + 2) ((i, some (.ref x)) :: lv) st ws k n) : mV X pc lv (.ref x :: st) ws k n := by
  obtain ⟨p, l, e, R', s, m, args, below, meth, c, Q, D, tys', A⟩ := X
  obtain ⟨hx, hb, hml, hR, hown, hts, hK, hty, hlk, hA, hst, hlt, htab⟩ := hX
  intro H locs ls hP hD hS hl
  obtain ⟨ls', e', h'⟩ := hl.st1 (v := .ref x) (by rw [hml]; exact hn) rfl hp
  intro T hT Y
  obtain ⟨t, a, b⟩ := kk H locs ls' hP hD hS h' T hT Y
  refine ⟨t, ?_, b⟩
  jvm_step Y.here [Y.here.top, ↓top_set Y.here.top, hx, hb, hd, e', Value.isRef]
  exact a

theorem r_lstore_n {j : Fin 4} {i : Nat} {x : Int64} (hX : mOK X own cc nL R hh tys) (hd : decode cc pc = .ok (.lstore_n j, 1)) (hi : (j : Nat) = i) (hn : i + 1 < nL) (hp : lgp lv i = true) (kk : mV X (pc + 1) ((i, some (.long x)) :: (i + 1, none) :: lv) st ws k n) : mV X pc lv (.long x :: st) ws k n := by
  obtain ⟨p, l, e, R', s, m, args, below, meth, c, Q, D, tys', A⟩ := X
  obtain ⟨hx, hb, hml, hR, hown, hts, hK, hty, hlk, hA, hst, hlt, htab⟩ := hX
  subst hi
  intro H locs ls hP hD hS hl
  obtain ⟨ls', e', h'⟩ := hl.st2 (v := .long x) (by rw [hml]; exact hn) rfl hp
  intro T hT Y
  obtain ⟨t, a, b⟩ := kk H locs ls' hP hD hS h' T hT Y
  refine ⟨t, ?_, b⟩
  jvm_step Y.here [Y.here.top, ↓top_set Y.here.top, hx, hb, hd, e']
  exact a

theorem r_lstore {i : Nat} {x : Int64} (hX : mOK X own cc nL R hh tys) (hd : decode cc pc = .ok (.lstore i, 2))  (hn : i + 1 < nL) (hp : lgp lv i = true) (kk : mV X (pc + 2) ((i, some (.long x)) :: (i + 1, none) :: lv) st ws k n) : mV X pc lv (.long x :: st) ws k n := by
  obtain ⟨p, l, e, R', s, m, args, below, meth, c, Q, D, tys', A⟩ := X
  obtain ⟨hx, hb, hml, hR, hown, hts, hK, hty, hlk, hA, hst, hlt, htab⟩ := hX
  intro H locs ls hP hD hS hl
  obtain ⟨ls', e', h'⟩ := hl.st2 (v := .long x) (by rw [hml]; exact hn) rfl hp
  intro T hT Y
  obtain ⟨t, a, b⟩ := kk H locs ls' hP hD hS h' T hT Y
  refine ⟨t, ?_, b⟩
  jvm_step Y.here [Y.here.top, ↓top_set Y.here.top, hx, hb, hd, e']
  exact a

theorem r_iinc {i : Nat} {z : Int} {x : Int32} (hX : mOK X own cc nL R hh tys) (hd : decode cc pc = .ok (.iinc i z, 3)) (hg : lget lv i = some (.int x)) (hn : i < nL) (hp : lgp lv i = true) (kk : mV X (pc + 3) ((i, some (.int (x + Int32.ofInt z))) :: lv) st ws k n) : mV X pc lv st ws k n := by
  obtain ⟨p, l, e, R', s, m, args, below, meth, c, Q, D, tys', A⟩ := X
  obtain ⟨hx, hb, hml, hR, hown, hts, hK, hty, hlk, hA, hst, hlt, htab⟩ := hX
  intro H locs ls hP hD hS hl
  obtain ⟨ls', e', h'⟩ := hl.st1 (v := .int (x + Int32.ofInt z)) (by rw [hml]; exact hn) rfl hp
  have hgg := hl.2.2 i _ hg
  intro T hT Y
  obtain ⟨t, a, b⟩ := kk H locs ls' hP hD hS h' T hT Y
  refine ⟨t, ?_, b⟩
  jvm_step Y.here [Y.here.top, ↓top_set Y.here.top, hx, hb, hd, hgg, e']
  exact a

/-- a field as an instruction of own names it -/
def mFd (own : String) (idx ci kf : Nat) (C : String) (T : u_T) (N : Nat) (ty : FieldType) : Prop :=
  (∀ w ∈ u_ws C T N, w ∈ mW) ∧ (∃ ty0 : Nat → FieldType, ∀ k, k < N → parseFieldDescriptor (T k).2.2.1 = some (ty0 k)) ∧ (∀ a, a < N → ∀ b, b < N → a ≠ b → (T a).2.1 ≠ (T b).2.1) ∧ vwCl[ci]? = some (C, T, N) ∧ kf < N ∧ Cond.fieldLink own idx (T kf).1 (T kf).2.1 (T kf).2.2.1 ∈ mW ∧ parseFieldDescriptor (T kf).2.2.1 = some ty
def mFn (own host : String) (idx ci kf : Nat) (C : String) (T : u_T) (N : Nat) (ty : FieldType) : Prop :=
  (∀ w ∈ u_ws C T N, w ∈ mW) ∧ (∃ ty0 : Nat → FieldType, ∀ k, k < N → parseFieldDescriptor (T k).2.2.1 = some (ty0 k)) ∧ (∀ a, a < N → ∀ b, b < N → a ≠ b → (T a).2.1 ≠ (T b).2.1) ∧ vwCl[ci]? = some (C, T, N) ∧ kf < N ∧ Cond.fieldLinkNest own idx (T kf).1 (T kf).2.1 (T kf).2.2.1 host ∈ mW ∧ parseFieldDescriptor (T kf).2.2.1 = some ty

theorem r_get  {idx ci kf N a : Nat} {C : String} {T : u_T} {ty : FieldType} {fs : List Value} {v : Value} (hX : mOK X own cc nL R hh tys) (hf : mFd own idx ci kf C T N ty) (q0 : Nat) (he : ws[q0]? = some (a, .inr (ci, fs))) (hv : fs[kf]? = some v) (hd : decode cc pc = .ok (.getfield idx, 3)) (kk : mV X (pc + 3) lv (v :: st) ws k n) : mV X pc lv (.ref a :: st) ws k n := by
  obtain ⟨p, l, e, R', s, m, args, below, meth, c, Q, D, tys', A⟩ := X
  obtain ⟨hx, hb, hml, hR, hown, hts, hK, hty, hlk, hA, hst, hlt, htab⟩ := hX
  obtain ⟨h1, -, -, h4, h5, h6, -⟩ := hf
  exact fun H locs ls hP hD hS hl => va_get (D := D) (ci := ci) (v := v) (C := C) (T := T) (N := N) hx hb hts h1 hown hK hP q0 he h4 kf h5 (hts _ h6) (fun _ h9 => h9) hv hd (kk H locs ls hP hD hS hl)

theorem r_put  {idx ci kf N a : Nat} {C : String} {T : u_T} {ty : FieldType} {fs : List Value} {v : Value} (hX : mOK X own cc nL R hh tys) (hf : mFd own idx ci kf C T N ty) (q0 : Nat) (he : ws[q0]? = some (a, .inr (ci, fs))) (hfin : (T kf).2.2.2 = false) (hn : narrow ty v = v) (hfit : fits ty v = true) (hl0 : kf < fs.length) (hd : decode cc pc = .ok (.putfield idx, 3)) (kk : mV X (pc + 3) lv st (ws.set q0 (a, .inr (ci, fs.set kf v))) k n) : mV X pc lv (v :: .ref a :: st) ws k n := by
  obtain ⟨p, l, e, R', s, m, args, below, meth, c, Q, D, tys', A⟩ := X
  obtain ⟨hx, hb, hml, hR, hown, hts, hK, hty, hlk, hA, hst, hlt, htab⟩ := hX
  obtain ⟨h1, ⟨ty0, h2⟩, h3, h4, h5, h6, h7⟩ := hf
  exact fun H locs ls hP hD hS hl => va_put (D := D) (ci := ci) (v := v) (ty := ty) (C := C) (T := T) (N := N) hx hb hts h1 ty0 h2 h3 hown hK hP hD hS q0 he h4 kf h5 (hts _ h6) (fun _ h9 => h9) hfin h7 hn hfit hl0 hd (fun H1 locs1 hP1 hD1 hS1 => kk H1 locs1 ls hP1 hD1 hS1 hl)

theorem r_getN {host : String} {idx ci kf N a : Nat} {C : String} {T : u_T} {ty : FieldType} {fs : List Value} {v : Value} (hX : mOK X own cc nL R hh tys) (hf : mFn own host idx ci kf C T N ty) (q0 : Nat) (he : ws[q0]? = some (a, .inr (ci, fs))) (hv : fs[kf]? = some v) (hd : decode cc pc = .ok (.getfield idx, 3)) (kk : mV X (pc + 3) lv (v :: st) ws k n) : mV X pc lv (.ref a :: st) ws k n := by
  obtain ⟨p, l, e, R', s, m, args, below, meth, c, Q, D, tys', A⟩ := X
  obtain ⟨hx, hb, hml, hR, hown, hts, hK, hty, hlk, hA, hst, hlt, htab⟩ := hX
  obtain ⟨h1, -, -, h4, h5, h6, -⟩ := hf
  exact fun H locs ls hP hD hS hl => va_getN (D := D) (ci := ci) (v := v) (C := C) (T := T) (N := N) hx hb hts h1 hown hK hP q0 he h4 kf h5 (hts _ h6) (fun _ h9 => h9) hv hd (kk H locs ls hP hD hS hl)

theorem r_putN {host : String} {idx ci kf N a : Nat} {C : String} {T : u_T} {ty : FieldType} {fs : List Value} {v : Value} (hX : mOK X own cc nL R hh tys) (hf : mFn own host idx ci kf C T N ty) (q0 : Nat) (he : ws[q0]? = some (a, .inr (ci, fs))) (hfin : (T kf).2.2.2 = false) (hn : narrow ty v = v) (hfit : fits ty v = true) (hl0 : kf < fs.length) (hd : decode cc pc = .ok (.putfield idx, 3)) (kk : mV X (pc + 3) lv st (ws.set q0 (a, .inr (ci, fs.set kf v))) k n) : mV X pc lv (v :: .ref a :: st) ws k n := by
  obtain ⟨p, l, e, R', s, m, args, below, meth, c, Q, D, tys', A⟩ := X
  obtain ⟨hx, hb, hml, hR, hown, hts, hK, hty, hlk, hA, hst, hlt, htab⟩ := hX
  obtain ⟨h1, ⟨ty0, h2⟩, h3, h4, h5, h6, h7⟩ := hf
  exact fun H locs ls hP hD hS hl => va_putN (D := D) (ci := ci) (v := v) (ty := ty) (C := C) (T := T) (N := N) hx hb hts h1 ty0 h2 h3 hown hK hP hD hS q0 he h4 kf h5 (hts _ h6) (fun _ h9 => h9) hfin h7 hn hfit hl0 hd (fun H1 locs1 hP1 hD1 hS1 => kk H1 locs1 ls hP1 hD1 hS1 hl)

theorem r_putF {idx ci kf N a : Nat} {C : String} {T : u_T} {ty : FieldType} {fs : List Value} {v : Value} {y : MethodName} (hX : mOK X own cc nL R hh tys) (hi : mIni X) (hf : mFd own idx ci kf C T N ty) (q0 : Nat) (he : ws[q0]? = some (a, .inr (ci, fs))) (hfin : (T kf).2.2.2 = true) (hdecl : (T kf).1 = own) (hn : narrow ty v = v) (hfit : fits ty v = true) (hl0 : kf < fs.length) (hd : decode cc pc = .ok (.putfield idx, 3)) (kk : mV X (pc + 3) lv st (ws.set q0 (a, .inr (ci, fs.set kf v))) k n) : mV X pc lv (v :: .ref a :: st) ws k n := by
  obtain ⟨p, l, e, R', s, m, args, below, meth, c, Q, D, tys', A⟩ := X
  obtain ⟨hx, hb, hml, hR, hown, hts, hK, hty, hlk, hA, hst, hlt, htab⟩ := hX
  obtain ⟨h1, ⟨ty0, h2⟩, h3, h4, h5, h6, h7⟩ := hf
  exact fun H locs ls hP hD hS hl => va_putF (D := D) (ci := ci) (v := v) (ty := ty) (C := C) (T := T) (N := N) hx hb hts h1 ty0 h2 h3 hown hK hP hD hS q0 he h4 kf h5 (hts _ h6) (fun _ h9 => h9) hfin hi hdecl h7 hn hfit hl0 hd (fun H1 locs1 hP1 hD1 hS1 => kk H1 locs1 ls hP1 hD1 hS1 hl)

theorem r_iald {a n0 : Nat} {cA : ClassId} {f : Nat → Int32} {i : Int32} (hX : mOK X own cc nL R hh tys) (q0 t0 : Nat) (he : ws[q0]? = some (a, .inl (cA, n0, .inl f))) (ht : tys[t0]? = some (cA, .int)) (hin : vp_in i n0) (hd : decode cc pc = .ok (.iaload, 1)) (kk : mV X (pc + 1) lv (.int (f i.toNatClampNeg) :: st) ws k n) : mV X pc lv (.int i :: .ref a :: st) ws k n := by
  obtain ⟨p, l, e, R', s, m, args, below, meth, c, Q, D, tys', A⟩ := X
  obtain ⟨hx, hb, hml, hR, hown, hts, hK, hty, hlk, hA, hst, hlt, htab⟩ := hX
  exact fun H locs ls hP hD hS hl => va_iald hx hb hK hP q0 t0 he ht hin hd (kk H locs ls hP hD hS hl)

theorem r_iast {a n0 : Nat} {cA : ClassId} {f : Nat → Int32} {i : Int32} {x : Int32} (hX : mOK X own cc nL R hh tys) (q0 t0 : Nat) (he : ws[q0]? = some (a, .inl (cA, n0, .inl f))) (ht : tys[t0]? = some (cA, .int)) (hin : vp_in i n0) (hd : decode cc pc = .ok (.iastore, 1)) (kk : mV X (pc + 1) lv st (ws.set q0 (a, .inl (cA, n0, .inl (upd f i.toNatClampNeg x)))) k n) : mV X pc lv (.int x :: .int i :: .ref a :: st) ws k n := by
  obtain ⟨p, l, e, R', s, m, args, below, meth, c, Q, D, tys', A⟩ := X
  obtain ⟨hx, hb, hml, hR, hown, hts, hK, hty, hlk, hA, hst, hlt, htab⟩ := hX
  exact fun H locs ls hP hD hS hl => va_iast hx hb hK hP hD hS q0 t0 he ht hin hd (fun H1 locs1 hP1 hD1 hS1 => kk H1 locs1 ls hP1 hD1 hS1 hl)

theorem r_lald {a n0 : Nat} {cA : ClassId} {f : Nat → Int64} {i : Int32} (hX : mOK X own cc nL R hh tys) (q0 t0 : Nat) (he : ws[q0]? = some (a, .inl (cA, n0, .inr (.inl f)))) (ht : tys[t0]? = some (cA, .long)) (hin : vp_in i n0) (hd : decode cc pc = .ok (.laload, 1)) (kk : mV X (pc + 1) lv (.long (f i.toNatClampNeg) :: st) ws k n) : mV X pc lv (.int i :: .ref a :: st) ws k n := by
  obtain ⟨p, l, e, R', s, m, args, below, meth, c, Q, D, tys', A⟩ := X
  obtain ⟨hx, hb, hml, hR, hown, hts, hK, hty, hlk, hA, hst, hlt, htab⟩ := hX
  exact fun H locs ls hP hD hS hl => va_lald hx hb hK hP q0 t0 he ht hin hd (kk H locs ls hP hD hS hl)

theorem r_last {a n0 : Nat} {cA : ClassId} {f : Nat → Int64} {i : Int32} {x : Int64} (hX : mOK X own cc nL R hh tys) (q0 t0 : Nat) (he : ws[q0]? = some (a, .inl (cA, n0, .inr (.inl f)))) (ht : tys[t0]? = some (cA, .long)) (hin : vp_in i n0) (hd : decode cc pc = .ok (.lastore, 1)) (kk : mV X (pc + 1) lv st (ws.set q0 (a, .inl (cA, n0, .inr (.inl (vp_updL f i.toNatClampNeg x))))) k n) : mV X pc lv (.long x :: .int i :: .ref a :: st) ws k n := by
  obtain ⟨p, l, e, R', s, m, args, below, meth, c, Q, D, tys', A⟩ := X
  obtain ⟨hx, hb, hml, hR, hown, hts, hK, hty, hlk, hA, hst, hlt, htab⟩ := hX
  exact fun H locs ls hP hD hS hl => va_last hx hb hK hP hD hS q0 t0 he ht hin hd (fun H1 locs1 hP1 hD1 hS1 => kk H1 locs1 ls hP1 hD1 hS1 hl)

theorem r_aald {a n0 : Nat} {cA : ClassId} {C : String} {f : Nat → Option Nat} {i : Int32} (hX : mOK X own cc nL R hh tys) (q0 t0 : Nat) (he : ws[q0]? = some (a, .inl (cA, n0, .inr (.inr (.inr (.inr f)))))) (ht : tys[t0]? = some (cA, .object C)) (hin : vp_in i n0) (hd : decode cc pc = .ok (.aaload, 1)) (kk : mV X (pc + 1) lv (va_rf (f i.toNatClampNeg) :: st) ws k n) : mV X pc lv (.int i :: .ref a :: st) ws k n := by
  obtain ⟨p, l, e, R', s, m, args, below, meth, c, Q, D, tys', A⟩ := X
  obtain ⟨hx, hb, hml, hR, hown, hts, hK, hty, hlk, hA, hst, hlt, htab⟩ := hX
  exact fun H locs ls hP hD hS hl => va_aldq hx hb hK hP q0 t0 he ht hin hd (kk H locs ls hP hD hS hl)

theorem r_alen {a : Nat} {cA : ClassId} {x : vp_A} {ty : FieldType} {v : Int32} (hX : mOK X own cc nL R hh tys) (q0 t0 : Nat) (he : ws[q0]? = some (a, .inl (cA, x))) (ht : tys[t0]? = some (cA, ty)) (hv : Int32.ofNat x.1 = v) (hd : decode cc pc = .ok (.arraylength, 1)) (kk : mV X (pc + 1) lv (.int v :: st) ws k n) : mV X pc lv (.ref a :: st) ws k n := by
  obtain ⟨p, l, e, R', s, m, args, below, meth, c, Q, D, tys', A⟩ := X
  obtain ⟨hx, hb, hml, hR, hown, hts, hK, hty, hlk, hA, hst, hlt, htab⟩ := hX
  exact fun H locs ls hP hD hS hl => va_alen hx hb hK hP q0 t0 he ht hv hd (kk H locs ls hP hD hS hl)

theorem r_ifnonnull {x : Nat} {off : Int} {tgt : Nat} (hX : mOK X own cc nL R hh tys) (hd : decode cc pc = .ok (.ifnonnull off, 3)) (ht : (pc : Int) + off = (tgt : Int)) (kk : mV X tgt lv st ws k n) : mV X pc lv (.ref x :: st) ws k n := by
  obtain ⟨p, l, e, R', s, m, args, below, meth, c, Q, D, tys', A⟩ := X
  obtain ⟨hx, hb, hml, hR, hown, hts, hK, hty, hlk, hA, hst, hlt, htab⟩ := hX
  exact fun H locs ls hP hD hS hl => lv_ifnonnull hx hb hd ht (kk H locs ls hP hD hS hl)

theorem r_take (j : Nat) (kk : mV X pc lv st (ws.take j) k n) : mV X pc lv st ws k n := by
  obtain ⟨p, l, e, R', s, m, args, below, meth, c, Q, D, tys', A⟩ := X
  refine fun H locs ls hP hD hS hl => kk H locs ls (fun i q h => hP i q ?_) ⟨fun i1 i2 q1 q2 h1 h2 h3 => hD.1 i1 i2 q1 q2 ?_ ?_ h3, fun i q h => hD.2 i q ?_⟩ hS hl
  all_goals
    rw [List.getElem?_take] at *
    split at * <;> simp_all
theorem r_lv {lv' : List (Nat × Option Value)} (hs : ∀ q ∈ lv', q.2 = none ∨ lget lv q.1 = q.2) (kk : mV X pc lv' st ws k n) : mV X pc lv st ws k n := by
  obtain ⟨p, l, e, R', s, m, args, below, meth, c, Q, D, tys', A⟩ := X
  exact fun H locs ls hP hD hS hl => kk H locs ls hP hD hS (hl.sub hs)
theorem r_wide {k' n' : Nat} (hk : k ≤ k') (hn : n ≤ n') (kk : mV X pc lv st ws k' n') : mV X pc lv st ws k n := by
  obtain ⟨p, l, e, R', s, m, args, below, meth, c, Q, D, tys', A⟩ := X
  exact fun H locs ls hP hD hS hl => W.widen hk hn (kk H locs ls hP hD hS hl)

theorem r_iret {x : Int32} (hX : mOK X own cc nL R hh tys) (hE : mE X Φ Ψ (some .int) mc ms) (hd : decode cc pc = .ok (.ireturn, 1))  (hk : k ≤ mc) (hn : n ≤ ms) (hΦ : Φ (some (.int x)) ws) : mV X pc lv [.int x] ws k n := by
  obtain ⟨p, l, e, R', s, m, args, below, meth, c, Q, D, tys', A⟩ := X
  obtain ⟨hx, hb, hml, hR, hown, hts, hK, hty, hlk, hA, hst, hlt, htab⟩ := hX
  obtain ⟨hr, rfl⟩ := hE
  exact fun H locs ls hP hD hS hl => W.widen hk hn (vx_ret (W.iret hx hb hr  (fun t ht hW => ⟨some (.int x), ws, rfl, hΦ, by rw [ht]; exact hP, hD, hS.F ht⟩) hS.2.2 hd (hlocks := hlk)))

theorem r_zret {x : Int32} {ty : FieldType} (hX : mOK X own cc nL R hh tys) (hE : mE X Φ Ψ (some ty) mc ms) (hd : decode cc pc = .ok (.ireturn, 1)) (hnw : narrow ty (.int x) = .int x) (hk : k ≤ mc) (hn : n ≤ ms) (hΦ : Φ (some (.int x)) ws) : mV X pc lv [.int x] ws k n := by
  obtain ⟨p, l, e, R', s, m, args, below, meth, c, Q, D, tys', A⟩ := X
  obtain ⟨hx, hb, hml, hR, hown, hts, hK, hty, hlk, hA, hst, hlt, htab⟩ := hX
  obtain ⟨hr, rfl⟩ := hE
  exact fun H locs ls hP hD hS hl => W.widen hk hn (vx_ret (W.zret hx hb hr hnw (fun t ht hW => ⟨some (.int x), ws, rfl, hΦ, by rw [ht]; exact hP, hD, hS.F ht⟩) hS.2.2 hd (hlocks := hlk)))

theorem r_lret {x : Int64} (hX : mOK X own cc nL R hh tys) (hE : mE X Φ Ψ (some .long) mc ms) (hd : decode cc pc = .ok (.lreturn, 1))  (hk : k ≤ mc) (hn : n ≤ ms) (hΦ : Φ (some (.long x)) ws) : mV X pc lv [.long x] ws k n := by
  obtain ⟨p, l, e, R', s, m, args, below, meth, c, Q, D, tys', A⟩ := X
  obtain ⟨hx, hb, hml, hR, hown, hts, hK, hty, hlk, hA, hst, hlt, htab⟩ := hX
  obtain ⟨hr, rfl⟩ := hE
  exact fun H locs ls hP hD hS hl => W.widen hk hn (vx_ret (W.lret hx hb hr  (fun t ht hW => ⟨some (.long x), ws, rfl, hΦ, by rw [ht]; exact hP, hD, hS.F ht⟩) hS.2.2 hd (hlocks := hlk)))

theorem r_vret  (hX : mOK X own cc nL R hh tys) (hE : mE X Φ Ψ (none) mc ms) (hd : decode cc pc = .ok (.return_, 1))  (hk : k ≤ mc) (hn : n ≤ ms) (hΦ : Φ (none) ws) : mV X pc lv [] ws k n := by
  obtain ⟨p, l, e, R', s, m, args, below, meth, c, Q, D, tys', A⟩ := X
  obtain ⟨hx, hb, hml, hR, hown, hts, hK, hty, hlk, hA, hst, hlt, htab⟩ := hX
  obtain ⟨hr, rfl⟩ := hE
  exact fun H locs ls hP hD hS hl => W.widen hk hn (vx_ret (W.vret hx hb hr  (fun t ht hW => ⟨none, ws, rfl, hΦ, by rw [ht]; exact hP, hD, hS.F ht⟩) hS.2.2 hd (hlocks := hlk)))

theorem r_aret {v : Value} {ty : FieldType} (hX : mOK X own cc nL R hh tys) (hE : mE X Φ Ψ (some ty) mc ms) (hd : decode cc pc = .ok (.areturn, 1)) (hrt : (∃ n, ty = .object n) ∨ ∃ t, ty = .array t) (hv : v = .null ∨ ∃ a, v = .ref a) (hk : k ≤ mc) (hn : n ≤ ms) (hΦ : Φ (some v) ws) : mV X pc lv [v] ws k n := by
  obtain ⟨p, l, e, R', s, m, args, below, meth, c, Q, D, tys', A⟩ := X
  obtain ⟨hx, hb, hml, hR, hown, hts, hK, hty, hlk, hA, hst, hlt, htab⟩ := hX
  obtain ⟨hr, rfl⟩ := hE
  exact fun H locs ls hP hD hS hl => W.widen hk hn (vx_ret (W.aret hx hb hr hrt hv (fun t ht hW => ⟨some v, ws, rfl, hΦ, by rw [ht]; exact hP, hD, hS.F ht⟩) hS.2.2 hd (hlocks := hlk)))

/-- not caught here: on to the caller -/
theorem r_out {E : String} (hX : mOK X own cc nL R [] tys) (hE : mE X Φ Ψ ret mc ms) (hk : k ≤ mc) (hn : n ≤ ms) (hΨ : Ψ E ws) : mT X pc lv st ws k n E := by
  obtain ⟨p, l, e, R', s, m, args, below, meth, c, Q, D, tys', A⟩ := X
  obtain ⟨hx, hb, hml, hR, hown, hts, hK, hty, hlk, hA, hst, hlt, htab⟩ := hX
  obtain ⟨hr, rfl⟩ := hE
  exact fun H locs ls q ce hP hD hS hl hq hv hcl => vx_out (by rw [htab]; exact fun x h => nomatch h) hlk hq hv hcl (fun t ht _ => ⟨ws, hΨ, by rw [ht]; exact hP, hD, hS.F ht⟩) hS.2.2 hk hn
/-- throw new E(text) -/
theorem r_throw {cls text : String} {names : List String} {ik is ic : Nat} (hX : mOK X own cc nL R [] tys) (hE : mE X Φ Ψ ret mc ms) (hcls : Bundle.fit cls = true) (hnames : ∀ n ∈ names, Bundle.fit n = true) (hk0 : Cond.classLink own ik cls ∈ mW) (hini : Cond.initialized cls ∈ mW) (hat : ∀ w ∈ vx_atS own ic cls names, w ∈ mW)
    (hgood : ∀ w ∈ Cond.classLink own ik cls :: Cond.initialized cls :: vx_atS own ic cls names, vx_ot w = true) (hstr : ∀ (A : Nat → Prop) (U : State), mst A U → ∃ a, vk_R own is text a U)
    (d0 : decode cc pc = .ok (.new ik, 3)) (d3 : decode cc (pc + 3) = .ok (.dup, 1)) (d4 : decode cc (pc + 4) = .ok (.ldc is, 2)) (d6 : decode cc (pc + 6) = .ok (.invokespecial ic, 3)) (d9 : decode cc (pc + 9) = .ok (.athrow, 1))
    (hf : names.length + 3 < R.frames) (hlo : (st.map fun v => v.category).sum + (13 * (names.length + 1) + 43) ≤ R.locals) (hRc : k + 1 ≤ R.cells) (hRs : n + 6 ≤ R.slots) (hk : k + 1 ≤ mc) (hn : n + 6 ≤ ms) (hΨ : Ψ cls ws) : mV X pc lv st ws k n := by
  obtain ⟨p, l, e, R', s, m, args, below, meth, c, Q, D, tys', A⟩ := X
  obtain ⟨hx, hb, hml, hR, hown, hts, hK, hty, hlk, hA, hst, hlt, htab⟩ := hX
  obtain ⟨hr, rfl⟩ := hE
  subst hR
  obtain ⟨sa, hsa⟩ := hstr A s hst
  refine fun H locs ls hP hD hS hl => vx_throwS hx hb hlt (A := A) hown hcls hnames (hts _ hk0) (hts _ hini) hsa (fun w hw => hts w (hat w hw)) hgood hst.2.2.1 hst.2.2.2 hS hl.1 d0 d3 d4 d6 d9 (by rw [htab]; exact fun x h => nomatch h) hf hlo hRc hRs hlk (fun t _ hz hq => ⟨ws, hΨ, fun i q h => ?_, hD, ?_⟩) hS.2.2 hk hn
  · exact (hP i q h).kept (hq q.1 (hP i q h).lt)
  · exact ⟨Nat.le_trans hS.1 hz, fun q h1 h2 => (hq q (Nat.lt_of_lt_of_le h1 hS.1)).trans (hS.2.1 q h1 h2)⟩

def mPush : Option Value → List Value → List Value
  | none, r => r
  | some v, r => v :: r
theorem mPush_eq (v : Option Value) (r : List Value) : v.toList ++ r = mPush v r := by cases v <;> rfl
/-- what a static call site says -/
def mWS (own : String) (idx : Nat) (y : MethodName) (b : ByteArray) (nL : Nat) (ret : Option FieldType) (cnt : Nat) : Prop :=
  Cond.methodLink own idx y ∈ mW ∧ Cond.static y ∈ mW ∧ Cond.initialized y.cls ∈ mW ∧ Cond.code y b nL ret ∈ mW ∧ (y.cls ≠ "java/lang/invoke/MethodHandle" ∧ y.cls ≠ "java/lang/invoke/VarHandle") ∧ (parseMethodDescriptor y.desc).map (fun d => d.parameters.length) = some cnt
/-- .. of a nest mate's method -/
def mWN (own host : String) (idx : Nat) (y : MethodName) (b : ByteArray) (nL : Nat) (ret : Option FieldType) (cnt : Nat) : Prop :=
  Cond.methodLinkNest own idx y host ∈ mW ∧ Cond.static y ∈ mW ∧ Cond.initialized y.cls ∈ mW ∧ Cond.code y b nL ret ∈ mW ∧ (y.cls ≠ "java/lang/invoke/MethodHandle" ∧ y.cls ≠ "java/lang/invoke/VarHandle") ∧ (parseMethodDescriptor y.desc).map (fun d => d.parameters.length) = some cnt
/-- what a virtual call site says -/
def mWV (own : String) (idx : Nat) (y : MethodName) (b : ByteArray) (nL : Nat) (ret : Option FieldType) (cnt : Nat) : Prop :=
  Cond.methodLink own idx y ∈ mW ∧ Cond.instanceMethod y ∈ mW ∧ Cond.selects y.cls y y ∈ mW ∧ Cond.initialized y.cls ∈ mW ∧ Cond.code y b nL ret ∈ mW ∧ (y.cls ≠ "java/lang/invoke/MethodHandle" ∧ y.cls ≠ "java/lang/invoke/VarHandle") ∧ (parseMethodDescriptor y.desc).map (fun d => d.parameters.length) = some cnt
theorem mWords {args : Array Value} {s : State} {y : MethodName} {b : ByteArray} {nL : Nat} {ret : Option FieldType} (hts : ∀ w ∈ mW, w.before args s = true) (hc : Cond.code y b nL ret ∈ mW) : ∀ w ∈ Cond.code y b nL ret :: mW, ∀ (a' : Array Value) (U : State), s.WarmedH U.vm → w.before a' U = true := by
  intro w hw a' U hW
  rcases List.mem_cons.mp hw with rfl | h
  · exact mwords hts hc a' U hW
  · exact mwords hts h a' U hW
theorem mCount {y : MethodName} {cnt : Nat} (h : (parseMethodDescriptor y.desc).map (fun d => d.parameters.length) = some cnt) : ∀ sig, parseMethodDescriptor y.desc = some sig → cnt = sig.parameters.length := by
  intro sig hs
  rw [hs] at h
  exact (Option.some.inj h).symm
theorem mU_at {D : va_G} {A : Nat → Prop} {s U : State} {H : Heap} {locs : List Loc} (hP : va_P D vwCl ws H) (hD : va_D A ws) (hS : va_S A s.heap H locs) (hK : va_K D vwCl tys s) (hA : ∀ q : Nat, s.heap.size ≤ q → A q) (hst : mst A s) (hU : U.heap = H) (hW : s.WarmedH U.vm) : mU D tys A ws U :=
  ⟨by rw [hU]; exact hP, hD, va_K.moved hW.alike hK, fun q hq => hA q (Nat.le_trans hS.1 (by rw [← hU]; exact hq)), mst.to hW hst (fun a h1 h2 => by rw [hU]; exact hS.2.1 a h1 h2)⟩

theorem r_callS {y : MethodName} {b : ByteArray} {nL2 idx cnt : Nat} {ret2 : Option FieldType} {rm : Room} {as rest : List Value} {Φ2 : Option Value → va_W → Prop} {Ψ2 : String → va_W → Prop} (hX : mOK X own cc nL R hh tys) (hc : mCt tys y b nL2 ret2 rm as ws Φ2 Ψ2) (hw : mWS own idx y b nL2 ret2 cnt) (hst0 : st = as.reverse ++ rest) (hlen : as.length = cnt) (hro : (rest.map fun v => v.category).sum ≤ 8) (hrm : rm.frames + 1 ≤ R.frames ∧ 8 + (nL2 + 11) + rm.locals ≤ R.locals) (hce : k + rm.cells ≤ R.cells ∧ n + rm.slots ≤ R.slots) (hd : decode cc pc = .ok (.invokestatic idx, 3)) (kx : ∀ E ws', Ψ2 E ws' → mT X pc lv rest ws' (k + rm.cells) (n + rm.slots) E) (kk : ∀ v ws', Φ2 v ws' → mV X (pc + 3) lv (mPush v rest) ws' (k + rm.cells) (n + rm.slots)) : mV X pc lv st ws k n := by
  obtain ⟨p, l, e, R', s, m, args, below, meth, c, Q, D, tys', A⟩ := X
  obtain ⟨hx, hb, hml, hR, hown, hts, hK, hty, hlk, hA, hst, hlt, htab⟩ := hX
  obtain ⟨w1, w2, w3, w4, w5, w6⟩ := hw
  subst hR
  intro H locs ls hP hD hS hl
  have hrun := vx_runS (own := own) (index := idx) (cells := k) (slots := n) (locs := locs) (e := e) (below := below) (meth := meth) (rest := rest) (g := F0 m pc ls st) ⟨hx, hb, hml, hown, hts⟩ (hc l D A hlt) ⟨⟨rfl, rfl, hrm.1, hrm.2, mWords hts w4, List.mem_cons_self, hts _ w4, hts _ w3, w5, mCount w6, hts _ w1⟩, hts _ w2⟩ ⟨mU_blind, fun U hU hW => ⟨rfl, mU_at hP hD hS hK hA hst hU hW⟩⟩ rfl hlen (hl.1.trans hml) hst0 (lv_room hro) hd hce
  intro T hT Y
  rcases hrun T hT Y with ⟨v, st₀, t, T', L, h0, Y', hL, e1, e2, ⟨v', ws', hv, hp, hP', hD', hF⟩, stp⟩ | ⟨q, st₀, t, T', L, E, ce, h0, Y', hL, e1, e2, ⟨ws', hp, hP', hD', hF⟩, hce, hcv, hcl, stp⟩
  · cases hv
    obtain ⟨-, -, k3⟩ := vx_keep h0 e1 hS (fun _ _ h => h) (fun _ h => h) hL hF
    obtain ⟨t2, a1, b1⟩ := kk v ws' hp T'.heap (locs ++ L) ls (by rw [e1]; exact hP') hD' k3 hl T' rfl Y'
    rw [← mPush_eq] at a1
    exact ⟨t2, stp t2 a1, b1⟩
  · obtain ⟨-, -, k3⟩ := vx_keep h0 e1 hS (fun _ _ h => h) (fun _ h => h) hL hF
    obtain ⟨t2, a1, b1⟩ := kx E ws' hp T'.heap (locs ++ L) ls q ce (by rw [e1]; exact hP') hD' k3 hl (by rw [e1]; exact hce) hcv hcl T' rfl Y'
    exact ⟨t2, stp.trans a1, b1⟩

theorem r_callV {y : MethodName} {b : ByteArray} {nL2 idx cnt : Nat} {ret2 : Option FieldType} {rm : Room} {as rest : List Value} {Φ2 : Option Value → va_W → Prop} {Ψ2 : String → va_W → Prop} {a ci N : Nat} {T0 : u_T} {fs : List Value} (hX : mOK X own cc nL R hh tys) (hc : mCt tys y b nL2 ret2 rm (.ref a :: as) ws Φ2 Ψ2) (hw : mWV own idx y b nL2 ret2 cnt) (q0 : Nat) (he : ws[q0]? = some (a, .inr (ci, fs))) (hci : vwCl[ci]? = some (y.cls, T0, N)) (hst0 : st = as.reverse ++ .ref a :: rest) (hlen : as.length = cnt) (hro : (rest.map fun v => v.category).sum ≤ 8) (hrm : rm.frames + 1 ≤ R.frames ∧ 8 + (nL2 + 11) + rm.locals ≤ R.locals) (hce : k + rm.cells ≤ R.cells ∧ n + rm.slots ≤ R.slots) (hd : decode cc pc = .ok (.invokevirtual idx, 3)) (kx : ∀ E ws', Ψ2 E ws' → mT X pc lv rest ws' (k + rm.cells) (n + rm.slots) E) (kk : ∀ v ws', Φ2 v ws' → mV X (pc + 3) lv (mPush v rest) ws' (k + rm.cells) (n + rm.slots)) : mV X pc lv st ws k n := by
  obtain ⟨p, l, e, R', s, m, args, below, meth, c, Q, D, tys', A⟩ := X
  obtain ⟨hx, hb, hml, hR, hown, hts, hK, hty, hlk, hA, hst, hlt, htab⟩ := hX
  obtain ⟨w1, w2, w2b, w3, w4, w5, w6⟩ := hw
  subst hR
  intro H locs ls hP hD hS hl
  have hrun := vx_runV (own := own) (C := y.cls) (index := idx) (cells := k) (slots := n) (locs := locs) (e := e) (below := below) (meth := meth) (rest := rest) (g := F0 m pc ls st) ⟨hx, hb, hml, hown, hts⟩ (hc l D A hlt) ⟨⟨rfl, rfl, hrm.1, hrm.2, mWords hts w4, List.mem_cons_self, hts _ w4, hts _ w3, w5, mCount w6, hts _ w1⟩, hts _ w2, hts _ w2b⟩ ⟨mU_blind, va_recv hK hP hci he, fun U hU hW => ⟨rfl, mU_at hP hD hS hK hA hst hU hW⟩⟩ rfl hlen (hl.1.trans hml) hst0 (lv_room hro) hd hce
  intro T hT Y
  rcases hrun T hT Y with ⟨v, st₀, t, T', L, h0, Y', hL, e1, e2, ⟨v', ws', hv, hp, hP', hD', hF⟩, stp⟩ | ⟨q, st₀, t, T', L, E, ce, h0, Y', hL, e1, e2, ⟨ws', hp, hP', hD', hF⟩, hce, hcv, hcl, stp⟩
  · cases hv
    obtain ⟨-, -, k3⟩ := vx_keep h0 e1 hS (fun _ _ h => h) (fun _ h => h) hL hF
    obtain ⟨t2, a1, b1⟩ := kk v ws' hp T'.heap (locs ++ L) ls (by rw [e1]; exact hP') hD' k3 hl T' rfl Y'
    rw [← mPush_eq] at a1
    exact ⟨t2, stp t2 a1, b1⟩
  · obtain ⟨-, -, k3⟩ := vx_keep h0 e1 hS (fun _ _ h => h) (fun _ h => h) hL hF
    obtain ⟨t2, a1, b1⟩ := kx E ws' hp T'.heap (locs ++ L) ls q ce (by rw [e1]; exact hP') hD' k3 hl (by rw [e1]; exact hce) hcv hcl T' rfl Y'
    exact ⟨t2, stp.trans a1, b1⟩

end MR
end
section
/-! THE TABLES' WORDS that the walks name (printed by a program of this repository out of what TURN prints). -/
/-- a static call of a method with handlers -/
def mWH (own : String) (idx : Nat) (y : MethodName) (b : ByteArray) (nL : Nat) (ret : Option FieldType) (hh : List (Nat × Nat × Nat × Nat)) (cnt : Nat) : Prop :=
  Cond.methodLink own idx y ∈ mW ∧ Cond.static y ∈ mW ∧ Cond.initialized y.cls ∈ mW ∧ Cond.codeWith y b nL ret hh ∈ mW ∧ (y.cls ≠ "java/lang/invoke/MethodHandle" ∧ y.cls ≠ "java/lang/invoke/VarHandle") ∧ (parseMethodDescriptor y.desc).map (fun d => d.parameters.length) = some cnt
theorem kinX1 : ∀ w ∈ u_ws RX1 TX1 3, w ∈ mW := by decide +kernel
theorem kinX2 : ∀ w ∈ u_ws RX2 TX2 8, w ∈ mW := by decide +kernel
theorem kinX3 : ∀ w ∈ u_ws RX3 TX3 2, w ∈ mW := by decide +kernel
theorem kinX4 : ∀ w ∈ u_ws RX4 TX4 9, w ∈ mW := by decide +kernel
theorem kw_39 : (Cond.initialized RL) ∈ mW := mW_at 39 (by decide +kernel) (by decide +kernel)
theorem kw_40 : (Cond.initialized RX2) ∈ mW := mW_at 40 (by decide +kernel) (by decide +kernel)
theorem kw_41 : (Cond.initialized RX1) ∈ mW := mW_at 41 (by decide +kernel) (by decide +kernel)
theorem kw_42 : (Cond.initialized RX4) ∈ mW := mW_at 42 (by decide +kernel) (by decide +kernel)
theorem kw_43 : (Cond.initialized RX3) ∈ mW := mW_at 43 (by decide +kernel) (by decide +kernel)
theorem kw_44 : (Cond.initialized "java/lang/Throwable") ∈ mW := mW_at 44 (by decide +kernel) (by decide +kernel)
theorem kw_45 : (Cond.initialized "java/lang/Exception") ∈ mW := mW_at 45 (by decide +kernel) (by decide +kernel)
theorem kw_46 : (Cond.initialized "java/lang/RuntimeException") ∈ mW := mW_at 46 (by decide +kernel) (by decide +kernel)
theorem kw_47 : (Cond.initialized "java/lang/IndexOutOfBoundsException") ∈ mW := mW_at 47 (by decide +kernel) (by decide +kernel)
theorem kw_48 : (Cond.initialized "java/lang/IllegalArgumentException") ∈ mW := mW_at 48 (by decide +kernel) (by decide +kernel)
theorem kw_49 : (Cond.initialized RJ9) ∈ mW := mW_at 49 (by decide +kernel) (by decide +kernel)
theorem kw_50 : (Cond.initialized "java/lang/AbstractStringBuilder") ∈ mW := mW_at 50 (by decide +kernel) (by decide +kernel)
theorem kw_51 : (Cond.initialized "java/lang/StringBuilder") ∈ mW := mW_at 51 (by decide +kernel) (by decide +kernel)
theorem kw_52 : (Cond.initialized "java/lang/String") ∈ mW := mW_at 52 (by decide +kernel) (by decide +kernel)
theorem kw_53 : (Cond.initialized "java/lang/StringUTF16") ∈ mW := mW_at 53 (by decide +kernel) (by decide +kernel)
theorem kw_54 : (Cond.initialized "jdk/internal/util/ArraysSupport") ∈ mW := mW_at 54 (by decide +kernel) (by decide +kernel)
theorem kw_55 : (Cond.initialized "java/util/Arrays") ∈ mW := mW_at 55 (by decide +kernel) (by decide +kernel)
theorem kw_56 : (Cond.initialized "java/lang/System") ∈ mW := mW_at 56 (by decide +kernel) (by decide +kernel)
theorem kw_57 : (Cond.initialized "java/lang/StringLatin1") ∈ mW := mW_at 57 (by decide +kernel) (by decide +kernel)
theorem kw_58 : (Cond.initialized "jdk/internal/util/Preconditions") ∈ mW := mW_at 58 (by decide +kernel) (by decide +kernel)
theorem kw_59 : (Cond.initialized "java/lang/Character") ∈ mW := mW_at 59 (by decide +kernel) (by decide +kernel)
theorem kw_60 : (Cond.initialized "java/lang/Integer") ∈ mW := mW_at 60 (by decide +kernel) (by decide +kernel)
theorem kw_61 : (Cond.initialized "java/lang/Long") ∈ mW := mW_at 61 (by decide +kernel) (by decide +kernel)
theorem kw_62 : (Cond.initialized RX0) ∈ mW := mW_at 62 (by decide +kernel) (by decide +kernel)
theorem kw_63 : (Cond.classLink RL 8 RX2) ∈ mW := mW_at 63 (by decide +kernel) (by decide +kernel)
theorem kw_64 : (Cond.instantiable RX2 8) ∈ mW := mW_at 64 (by decide +kernel) (by decide +kernel)
theorem kw_71 : (Cond.classLink RX2 17 RX1) ∈ mW := mW_at 71 (by decide +kernel) (by decide +kernel)
theorem kw_73 : (Cond.instantiable RX1 3) ∈ mW := mW_at 73 (by decide +kernel) (by decide +kernel)
theorem kw_74 : (Cond.methodLinkNest RX2 19 yX1_init RX2) ∈ mW := mW_at 74 (by decide +kernel) (by decide +kernel)
theorem kw_76 : (Cond.code yX1_init cX1_init 1 none) ∈ mW := mW_at 76 (by decide +kernel) (by decide +kernel)
theorem kw_75 : (Cond.instanceMethod yX1_init) ∈ mW := mW_at 75 (by decide +kernel) (by decide +kernel)
theorem kw_78 : (Cond.fieldLink RX1 9 "Momentdesk$Local" "second" "J") ∈ mW := mW_at 78 (by decide +kernel) (by decide +kernel)
theorem kw_79 : (Cond.fieldLinkNest RX2 146 "Momentdesk$Local" "second" "J" RX2) ∈ mW := mW_at 79 (by decide +kernel) (by decide +kernel)
theorem kw_80 : (Cond.fieldLink RX1 15 "Momentdesk$Local" "nano" "I") ∈ mW := mW_at 80 (by decide +kernel) (by decide +kernel)
theorem kw_81 : (Cond.fieldLinkNest RX2 172 "Momentdesk$Local" "nano" "I" RX2) ∈ mW := mW_at 81 (by decide +kernel) (by decide +kernel)
theorem kw_82 : (Cond.fieldLink RX1 19 "Momentdesk$Local" "offset" "I") ∈ mW := mW_at 82 (by decide +kernel) (by decide +kernel)
theorem kw_83 : (Cond.fieldLinkNest RX2 158 "Momentdesk$Local" "offset" "I" RX2) ∈ mW := mW_at 83 (by decide +kernel) (by decide +kernel)
theorem kw_93 : (Cond.fieldLink RX2 9 "Momentdesk" "offsets" "[I") ∈ mW := mW_at 93 (by decide +kernel) (by decide +kernel)
theorem kw_94 : (Cond.fieldLink RX2 13 "Momentdesk" "numbers" "[J") ∈ mW := mW_at 94 (by decide +kernel) (by decide +kernel)
theorem kw_95 : (Cond.fieldLink RX2 20 "Momentdesk" "dates" "[LMomentdesk$Local;") ∈ mW := mW_at 95 (by decide +kernel) (by decide +kernel)
theorem kw_96 : (Cond.fieldLink RX2 24 "Momentdesk" "clocks" "[LMomentdesk$Local;") ∈ mW := mW_at 96 (by decide +kernel) (by decide +kernel)
theorem kw_97 : (Cond.fieldLink RX2 27 "Momentdesk" "triedDated" "LMomentdesk$Local;") ∈ mW := mW_at 97 (by decide +kernel) (by decide +kernel)
theorem kw_98 : (Cond.fieldLink RX2 31 "Momentdesk" "triedClock" "LMomentdesk$Local;") ∈ mW := mW_at 98 (by decide +kernel) (by decide +kernel)
theorem kw_99 : (Cond.fieldLink RX2 196 "Momentdesk" "knocks" "I") ∈ mW := mW_at 99 (by decide +kernel) (by decide +kernel)
theorem kw_100 : (Cond.fieldLink RX2 199 "Momentdesk" "refusals" "I") ∈ mW := mW_at 100 (by decide +kernel) (by decide +kernel)
theorem kw_121 : (Cond.code yX2_knock cX2_knock 1 (some .int)) ∈ mW := mW_at 121 (by decide +kernel) (by decide +kernel)
theorem kw_118 : (Cond.methodLink RL 241 yX2_knock) ∈ mW := mW_at 118 (by decide +kernel) (by decide +kernel)
theorem kw_119 : (Cond.instanceMethod yX2_knock) ∈ mW := mW_at 119 (by decide +kernel) (by decide +kernel)
theorem kw_120 : (Cond.selects RX2 yX2_knock yX2_knock) ∈ mW := mW_at 120 (by decide +kernel) (by decide +kernel)
theorem kw_125 : (Cond.code yX2_isSound cX2_isSound 1 (some .boolean)) ∈ mW := mW_at 125 (by decide +kernel) (by decide +kernel)
theorem kw_122 : (Cond.methodLink RL 248 yX2_isSound) ∈ mW := mW_at 122 (by decide +kernel) (by decide +kernel)
theorem kw_123 : (Cond.instanceMethod yX2_isSound) ∈ mW := mW_at 123 (by decide +kernel) (by decide +kernel)
theorem kw_124 : (Cond.selects RX2 yX2_isSound yX2_isSound) ∈ mW := mW_at 124 (by decide +kernel) (by decide +kernel)
theorem kw_129 : (Cond.code yX2_areMomentsSound cX2_areMomentsSound 5 (some .boolean)) ∈ mW := mW_at 129 (by decide +kernel) (by decide +kernel)
theorem kw_126 : (Cond.methodLink RX2 208 yX2_areMomentsSound) ∈ mW := mW_at 126 (by decide +kernel) (by decide +kernel)
theorem kw_128 : (Cond.instanceMethod yX2_areMomentsSound) ∈ mW := mW_at 128 (by decide +kernel) (by decide +kernel)
theorem kw_0 : (Cond.selects RX2 yX2_areMomentsSound yX2_areMomentsSound) ∈ mW := mW_at 0 (by decide +kernel) (by decide +kernel)
theorem kw_132 : (Cond.code yX2_secondOf cX2_secondOf 2 (some .long)) ∈ mW := mW_at 132 (by decide +kernel) (by decide +kernel)
theorem kw_130 : (Cond.methodLink RX2 96 yX2_secondOf) ∈ mW := mW_at 130 (by decide +kernel) (by decide +kernel)
theorem kw_131 : (Cond.static yX2_secondOf) ∈ mW := mW_at 131 (by decide +kernel) (by decide +kernel)
theorem kw_133 : (Cond.constantLong RX2 72 (1000000000)) ∈ mW := mW_at 133 (by decide +kernel) (by decide +kernel)
theorem kw_136 : (Cond.code yJ9_floorDiv_f86c9 cJ9_floorDiv_f86c9 6 (some .long)) ∈ mW := mW_at 136 (by decide +kernel) (by decide +kernel)
theorem kw_134 : (Cond.methodLink RX2 100 yJ9_floorDiv_f86c9) ∈ mW := mW_at 134 (by decide +kernel) (by decide +kernel)
theorem kw_135 : (Cond.static yJ9_floorDiv_f86c9) ∈ mW := mW_at 135 (by decide +kernel) (by decide +kernel)
theorem kw_139 : (Cond.code yX2_nanoOf cX2_nanoOf 2 (some .int)) ∈ mW := mW_at 139 (by decide +kernel) (by decide +kernel)
theorem kw_137 : (Cond.methodLink RX2 92 yX2_nanoOf) ∈ mW := mW_at 137 (by decide +kernel) (by decide +kernel)
theorem kw_138 : (Cond.static yX2_nanoOf) ∈ mW := mW_at 138 (by decide +kernel) (by decide +kernel)
theorem kw_142 : (Cond.code yJ9_floorMod_f86c9 cJ9_floorMod_f86c9 6 (some .long)) ∈ mW := mW_at 142 (by decide +kernel) (by decide +kernel)
theorem kw_140 : (Cond.methodLink RX2 277 yJ9_floorMod_f86c9) ∈ mW := mW_at 140 (by decide +kernel) (by decide +kernel)
theorem kw_141 : (Cond.static yJ9_floorMod_f86c9) ∈ mW := mW_at 141 (by decide +kernel) (by decide +kernel)
theorem kw_146 : (Cond.code yX1_tell cX1_tell 5 none) ∈ mW := mW_at 146 (by decide +kernel) (by decide +kernel)
theorem kw_143 : (Cond.methodLink RX2 270 yX1_tell) ∈ mW := mW_at 143 (by decide +kernel) (by decide +kernel)
theorem kw_144 : (Cond.instanceMethod yX1_tell) ∈ mW := mW_at 144 (by decide +kernel) (by decide +kernel)
theorem kw_145 : (Cond.selects RX1 yX1_tell yX1_tell) ∈ mW := mW_at 145 (by decide +kernel) (by decide +kernel)
theorem kw_149 : (Cond.code yX2_numberOf cX2_numberOf 1 (some .long)) ∈ mW := mW_at 149 (by decide +kernel) (by decide +kernel)
theorem kw_147 : (Cond.methodLink RX2 88 yX2_numberOf) ∈ mW := mW_at 147 (by decide +kernel) (by decide +kernel)
theorem kw_148 : (Cond.static yX2_numberOf) ∈ mW := mW_at 148 (by decide +kernel) (by decide +kernel)
theorem kw_153 : (Cond.code yX1_momentSecond cX1_momentSecond 1 (some .long)) ∈ mW := mW_at 153 (by decide +kernel) (by decide +kernel)
theorem kw_150 : (Cond.methodLink RX2 169 yX1_momentSecond) ∈ mW := mW_at 150 (by decide +kernel) (by decide +kernel)
theorem kw_151 : (Cond.instanceMethod yX1_momentSecond) ∈ mW := mW_at 151 (by decide +kernel) (by decide +kernel)
theorem kw_152 : (Cond.selects RX1 yX1_momentSecond yX1_momentSecond) ∈ mW := mW_at 152 (by decide +kernel) (by decide +kernel)
theorem kw_157 : (Cond.code yX2_areDatesToldAnewSound cX2_areDatesToldAnewSound 3 (some .boolean)) ∈ mW := mW_at 157 (by decide +kernel) (by decide +kernel)
theorem kw_154 : (Cond.methodLink RX2 212 yX2_areDatesToldAnewSound) ∈ mW := mW_at 154 (by decide +kernel) (by decide +kernel)
theorem kw_156 : (Cond.instanceMethod yX2_areDatesToldAnewSound) ∈ mW := mW_at 156 (by decide +kernel) (by decide +kernel)
theorem kw_1 : (Cond.selects RX2 yX2_areDatesToldAnewSound yX2_areDatesToldAnewSound) ∈ mW := mW_at 1 (by decide +kernel) (by decide +kernel)
theorem kw_160 : (Cond.code yX2_at cX2_at 2 (some (.object "Momentdesk$Local"))) ∈ mW := mW_at 160 (by decide +kernel) (by decide +kernel)
theorem kw_158 : (Cond.methodLink RX2 84 yX2_at) ∈ mW := mW_at 158 (by decide +kernel) (by decide +kernel)
theorem kw_159 : (Cond.static yX2_at) ∈ mW := mW_at 159 (by decide +kernel) (by decide +kernel)
theorem kw_161 : (Cond.classLink RX2 250 "java/lang/IndexOutOfBoundsException") ∈ mW := mW_at 161 (by decide +kernel) (by decide +kernel)
theorem kw_231 : (Cond.code yX2_isToldAnewSound cX2_isToldAnewSound 6 (some .boolean)) ∈ mW := mW_at 231 (by decide +kernel) (by decide +kernel)
theorem kw_228 : (Cond.methodLink RX2 366 yX2_isToldAnewSound) ∈ mW := mW_at 228 (by decide +kernel) (by decide +kernel)
theorem kw_230 : (Cond.instanceMethod yX2_isToldAnewSound) ∈ mW := mW_at 230 (by decide +kernel) (by decide +kernel)
theorem kw_3 : (Cond.selects RX2 yX2_isToldAnewSound yX2_isToldAnewSound) ∈ mW := mW_at 3 (by decide +kernel) (by decide +kernel)
theorem kw_232 : (Cond.constantLong RX2 266 (-1893456000)) ∈ mW := mW_at 232 (by decide +kernel) (by decide +kernel)
theorem kw_233 : (Cond.constantLong RX2 268 (1924991999)) ∈ mW := mW_at 233 (by decide +kernel) (by decide +kernel)
theorem kw_236 : (Cond.code yX2_isWithin cX2_isWithin 6 (some .boolean)) ∈ mW := mW_at 236 (by decide +kernel) (by decide +kernel)
theorem kw_234 : (Cond.methodLink RX2 48 yX2_isWithin) ∈ mW := mW_at 234 (by decide +kernel) (by decide +kernel)
theorem kw_235 : (Cond.static yX2_isWithin) ∈ mW := mW_at 235 (by decide +kernel) (by decide +kernel)
theorem kw_240 : (Cond.code yX1_isAlike cX1_isAlike 2 (some .boolean)) ∈ mW := mW_at 240 (by decide +kernel) (by decide +kernel)
theorem kw_237 : (Cond.methodLink RX2 360 yX1_isAlike) ∈ mW := mW_at 237 (by decide +kernel) (by decide +kernel)
theorem kw_238 : (Cond.instanceMethod yX1_isAlike) ∈ mW := mW_at 238 (by decide +kernel) (by decide +kernel)
theorem kw_239 : (Cond.selects RX1 yX1_isAlike yX1_isAlike) ∈ mW := mW_at 239 (by decide +kernel) (by decide +kernel)
theorem kw_241 : (Cond.methodLink RX1 55 yX1_momentSecond) ∈ mW := mW_at 241 (by decide +kernel) (by decide +kernel)
theorem kw_245 : (Cond.code yX1_isSame cX1_isSame 2 (some .boolean)) ∈ mW := mW_at 245 (by decide +kernel) (by decide +kernel)
theorem kw_242 : (Cond.methodLink RX2 363 yX1_isSame) ∈ mW := mW_at 242 (by decide +kernel) (by decide +kernel)
theorem kw_243 : (Cond.instanceMethod yX1_isSame) ∈ mW := mW_at 243 (by decide +kernel) (by decide +kernel)
theorem kw_244 : (Cond.selects RX1 yX1_isSame yX1_isSame) ∈ mW := mW_at 244 (by decide +kernel) (by decide +kernel)
theorem kw_249 : (Cond.code yX2_arePairsSound cX2_arePairsSound 3 (some .boolean)) ∈ mW := mW_at 249 (by decide +kernel) (by decide +kernel)
theorem kw_246 : (Cond.methodLink RX2 215 yX2_arePairsSound) ∈ mW := mW_at 246 (by decide +kernel) (by decide +kernel)
theorem kw_248 : (Cond.instanceMethod yX2_arePairsSound) ∈ mW := mW_at 248 (by decide +kernel) (by decide +kernel)
theorem kw_4 : (Cond.selects RX2 yX2_arePairsSound yX2_arePairsSound) ∈ mW := mW_at 4 (by decide +kernel) (by decide +kernel)
theorem kw_252 : (Cond.code yX2_isPairSound cX2_isPairSound 4 (some .boolean)) ∈ mW := mW_at 252 (by decide +kernel) (by decide +kernel)
theorem kw_250 : (Cond.methodLink RX2 370 yX2_isPairSound) ∈ mW := mW_at 250 (by decide +kernel) (by decide +kernel)
theorem kw_251 : (Cond.static yX2_isPairSound) ∈ mW := mW_at 251 (by decide +kernel) (by decide +kernel)
theorem kw_256 : (Cond.code yX1_isAhead cX1_isAhead 2 (some .boolean)) ∈ mW := mW_at 256 (by decide +kernel) (by decide +kernel)
theorem kw_253 : (Cond.methodLink RX2 356 yX1_isAhead) ∈ mW := mW_at 253 (by decide +kernel) (by decide +kernel)
theorem kw_254 : (Cond.instanceMethod yX1_isAhead) ∈ mW := mW_at 254 (by decide +kernel) (by decide +kernel)
theorem kw_255 : (Cond.selects RX1 yX1_isAhead yX1_isAhead) ∈ mW := mW_at 255 (by decide +kernel) (by decide +kernel)
theorem kw_260 : (Cond.code yX1_momentOrder cX1_momentOrder 3 (some .int)) ∈ mW := mW_at 260 (by decide +kernel) (by decide +kernel)
theorem kw_257 : (Cond.methodLink RX1 51 yX1_momentOrder) ∈ mW := mW_at 257 (by decide +kernel) (by decide +kernel)
theorem kw_258 : (Cond.instanceMethod yX1_momentOrder) ∈ mW := mW_at 258 (by decide +kernel) (by decide +kernel)
theorem kw_259 : (Cond.selects RX1 yX1_momentOrder yX1_momentOrder) ∈ mW := mW_at 259 (by decide +kernel) (by decide +kernel)
theorem kw_261 : (Cond.methodLinkNest RX1 59 yX2_compared RX2) ∈ mW := mW_at 261 (by decide +kernel) (by decide +kernel)
theorem kw_262 : (Cond.static yX2_compared) ∈ mW := mW_at 262 (by decide +kernel) (by decide +kernel)
theorem kw_263 : (Cond.code yX2_compared cX2_compared 4 (some .int)) ∈ mW := mW_at 263 (by decide +kernel) (by decide +kernel)
theorem kw_267 : (Cond.code yX1_orderTo cX1_orderTo 3 (some .int)) ∈ mW := mW_at 267 (by decide +kernel) (by decide +kernel)
theorem kw_264 : (Cond.methodLink RX2 179 yX1_orderTo) ∈ mW := mW_at 264 (by decide +kernel) (by decide +kernel)
theorem kw_265 : (Cond.instanceMethod yX1_orderTo) ∈ mW := mW_at 265 (by decide +kernel) (by decide +kernel)
theorem kw_266 : (Cond.selects RX1 yX1_orderTo yX1_orderTo) ∈ mW := mW_at 266 (by decide +kernel) (by decide +kernel)
theorem kw_271 : (Cond.code yX2_areStrikesSound cX2_areStrikesSound 3 (some .boolean)) ∈ mW := mW_at 271 (by decide +kernel) (by decide +kernel)
theorem kw_268 : (Cond.methodLink RX2 218 yX2_areStrikesSound) ∈ mW := mW_at 268 (by decide +kernel) (by decide +kernel)
theorem kw_270 : (Cond.instanceMethod yX2_areStrikesSound) ∈ mW := mW_at 270 (by decide +kernel) (by decide +kernel)
theorem kw_5 : (Cond.selects RX2 yX2_areStrikesSound yX2_areStrikesSound) ∈ mW := mW_at 5 (by decide +kernel) (by decide +kernel)
theorem kw_275 : (Cond.code yX1_secondOfDay cX1_secondOfDay 1 (some .int)) ∈ mW := mW_at 275 (by decide +kernel) (by decide +kernel)
theorem kw_272 : (Cond.methodLink RX2 320 yX1_secondOfDay) ∈ mW := mW_at 272 (by decide +kernel) (by decide +kernel)
theorem kw_273 : (Cond.instanceMethod yX1_secondOfDay) ∈ mW := mW_at 273 (by decide +kernel) (by decide +kernel)
theorem kw_274 : (Cond.selects RX1 yX1_secondOfDay yX1_secondOfDay) ∈ mW := mW_at 274 (by decide +kernel) (by decide +kernel)
theorem kw_276 : (Cond.constantLong RX1 22 (86400)) ∈ mW := mW_at 276 (by decide +kernel) (by decide +kernel)
theorem kw_277 : (Cond.methodLink RX1 45 yJ9_floorMod_f86c9) ∈ mW := mW_at 277 (by decide +kernel) (by decide +kernel)
theorem kw_281 : (Cond.code yX1_beginOfDay cX1_beginOfDay 1 (some .long)) ∈ mW := mW_at 281 (by decide +kernel) (by decide +kernel)
theorem kw_278 : (Cond.methodLink RX2 190 yX1_beginOfDay) ∈ mW := mW_at 278 (by decide +kernel) (by decide +kernel)
theorem kw_279 : (Cond.instanceMethod yX1_beginOfDay) ∈ mW := mW_at 279 (by decide +kernel) (by decide +kernel)
theorem kw_280 : (Cond.selects RX1 yX1_beginOfDay yX1_beginOfDay) ∈ mW := mW_at 280 (by decide +kernel) (by decide +kernel)
theorem kw_285 : (Cond.code yX1_day cX1_day 1 (some .int)) ∈ mW := mW_at 285 (by decide +kernel) (by decide +kernel)
theorem kw_282 : (Cond.methodLink RX1 30 yX1_day) ∈ mW := mW_at 282 (by decide +kernel) (by decide +kernel)
theorem kw_283 : (Cond.instanceMethod yX1_day) ∈ mW := mW_at 283 (by decide +kernel) (by decide +kernel)
theorem kw_284 : (Cond.selects RX1 yX1_day yX1_day) ∈ mW := mW_at 284 (by decide +kernel) (by decide +kernel)
theorem kw_286 : (Cond.methodLink RX1 24 yJ9_floorDiv_f86c9) ∈ mW := mW_at 286 (by decide +kernel) (by decide +kernel)
theorem kw_290 : (Cond.code yX2_digest cX2_digest 3 (some .long)) ∈ mW := mW_at 290 (by decide +kernel) (by decide +kernel)
theorem kw_287 : (Cond.methodLink RL 253 yX2_digest) ∈ mW := mW_at 287 (by decide +kernel) (by decide +kernel)
theorem kw_288 : (Cond.instanceMethod yX2_digest) ∈ mW := mW_at 288 (by decide +kernel) (by decide +kernel)
theorem kw_289 : (Cond.selects RX2 yX2_digest yX2_digest) ∈ mW := mW_at 289 (by decide +kernel) (by decide +kernel)
theorem kw_291 : (Cond.constantLong RX2 221 (6199)) ∈ mW := mW_at 291 (by decide +kernel) (by decide +kernel)
theorem kw_295 : (Cond.code yX2_withOffsets cX2_withOffsets 6 (some .long)) ∈ mW := mW_at 295 (by decide +kernel) (by decide +kernel)
theorem kw_292 : (Cond.methodLink RX2 223 yX2_withOffsets) ∈ mW := mW_at 292 (by decide +kernel) (by decide +kernel)
theorem kw_294 : (Cond.instanceMethod yX2_withOffsets) ∈ mW := mW_at 294 (by decide +kernel) (by decide +kernel)
theorem kw_6 : (Cond.selects RX2 yX2_withOffsets yX2_withOffsets) ∈ mW := mW_at 6 (by decide +kernel) (by decide +kernel)
theorem kw_299 : (Cond.code yX2_seconds cX2_seconds 2 (some .int)) ∈ mW := mW_at 299 (by decide +kernel) (by decide +kernel)
theorem kw_296 : (Cond.methodLink RX2 64 yX2_seconds) ∈ mW := mW_at 296 (by decide +kernel) (by decide +kernel)
theorem kw_297 : (Cond.instanceMethod yX2_seconds) ∈ mW := mW_at 297 (by decide +kernel) (by decide +kernel)
theorem kw_298 : (Cond.selects RX2 yX2_seconds yX2_seconds) ∈ mW := mW_at 298 (by decide +kernel) (by decide +kernel)
theorem kw_302 : (Cond.code yX2_requireOne cX2_requireOne 2 none) ∈ mW := mW_at 302 (by decide +kernel) (by decide +kernel)
theorem kw_300 : (Cond.methodLink RX2 34 yX2_requireOne) ∈ mW := mW_at 300 (by decide +kernel) (by decide +kernel)
theorem kw_301 : (Cond.static yX2_requireOne) ∈ mW := mW_at 301 (by decide +kernel) (by decide +kernel)
theorem kw_305 : (Cond.code yX2_added cX2_added 4 (some .long)) ∈ mW := mW_at 305 (by decide +kernel) (by decide +kernel)
theorem kw_303 : (Cond.methodLink RX2 247 yX2_added) ∈ mW := mW_at 303 (by decide +kernel) (by decide +kernel)
theorem kw_304 : (Cond.static yX2_added) ∈ mW := mW_at 304 (by decide +kernel) (by decide +kernel)
theorem kw_306 : (Cond.constantLong RX2 374 (31)) ∈ mW := mW_at 306 (by decide +kernel) (by decide +kernel)
theorem kw_310 : (Cond.code yX2_withMoments cX2_withMoments 6 (some .long)) ∈ mW := mW_at 310 (by decide +kernel) (by decide +kernel)
theorem kw_307 : (Cond.methodLink RX2 226 yX2_withMoments) ∈ mW := mW_at 307 (by decide +kernel) (by decide +kernel)
theorem kw_309 : (Cond.instanceMethod yX2_withMoments) ∈ mW := mW_at 309 (by decide +kernel) (by decide +kernel)
theorem kw_7 : (Cond.selects RX2 yX2_withMoments yX2_withMoments) ∈ mW := mW_at 7 (by decide +kernel) (by decide +kernel)
theorem kw_314 : (Cond.code yX2_ofMoment cX2_ofMoment 3 (some .int)) ∈ mW := mW_at 314 (by decide +kernel) (by decide +kernel)
theorem kw_311 : (Cond.methodLink RX2 376 yX2_ofMoment) ∈ mW := mW_at 311 (by decide +kernel) (by decide +kernel)
theorem kw_312 : (Cond.instanceMethod yX2_ofMoment) ∈ mW := mW_at 312 (by decide +kernel) (by decide +kernel)
theorem kw_313 : (Cond.selects RX2 yX2_ofMoment yX2_ofMoment) ∈ mW := mW_at 313 (by decide +kernel) (by decide +kernel)
theorem kw_318 : (Cond.code yX2_withDates cX2_withDates 7 (some .long)) ∈ mW := mW_at 318 (by decide +kernel) (by decide +kernel)
theorem kw_315 : (Cond.methodLink RX2 229 yX2_withDates) ∈ mW := mW_at 315 (by decide +kernel) (by decide +kernel)
theorem kw_317 : (Cond.instanceMethod yX2_withDates) ∈ mW := mW_at 317 (by decide +kernel) (by decide +kernel)
theorem kw_8 : (Cond.selects RX2 yX2_withDates yX2_withDates) ∈ mW := mW_at 8 (by decide +kernel) (by decide +kernel)
theorem kw_321 : (Cond.code yX2_datePart cX2_datePart 3 (some .int)) ∈ mW := mW_at 321 (by decide +kernel) (by decide +kernel)
theorem kw_319 : (Cond.methodLink RX2 175 yX2_datePart) ∈ mW := mW_at 319 (by decide +kernel) (by decide +kernel)
theorem kw_320 : (Cond.static yX2_datePart) ∈ mW := mW_at 320 (by decide +kernel) (by decide +kernel)
theorem kw_322 : (Cond.methodLink RX2 274 yX1_day) ∈ mW := mW_at 322 (by decide +kernel) (by decide +kernel)
theorem kw_325 : (Cond.code yX0_yearOf cX0_yearOf 2 (some .int)) ∈ mW := mW_at 325 (by decide +kernel) (by decide +kernel)
theorem kw_323 : (Cond.methodLink RX2 323 yX0_yearOf) ∈ mW := mW_at 323 (by decide +kernel) (by decide +kernel)
theorem kw_324 : (Cond.static yX0_yearOf) ∈ mW := mW_at 324 (by decide +kernel) (by decide +kernel)
theorem kw_328 : (Cond.code yX0_firstDayOf cX0_firstDayOf 2 (some .int)) ∈ mW := mW_at 328 (by decide +kernel) (by decide +kernel)
theorem kw_326 : (Cond.methodLink RX0 26 yX0_firstDayOf) ∈ mW := mW_at 326 (by decide +kernel) (by decide +kernel)
theorem kw_327 : (Cond.static yX0_firstDayOf) ∈ mW := mW_at 327 (by decide +kernel) (by decide +kernel)
theorem kw_329 : (Cond.constant RX0 25 (719162)) ∈ mW := mW_at 329 (by decide +kernel) (by decide +kernel)
theorem kw_332 : (Cond.code yX0_monthOf cX0_monthOf 4 (some .int)) ∈ mW := mW_at 332 (by decide +kernel) (by decide +kernel)
theorem kw_330 : (Cond.methodLink RX2 326 yX0_monthOf) ∈ mW := mW_at 330 (by decide +kernel) (by decide +kernel)
theorem kw_331 : (Cond.static yX0_monthOf) ∈ mW := mW_at 331 (by decide +kernel) (by decide +kernel)
theorem kw_333 : (Cond.methodLink RX0 33 yX0_yearOf) ∈ mW := mW_at 333 (by decide +kernel) (by decide +kernel)
theorem kw_336 : (Cond.code yX0_daysBeforeMonth cX0_daysBeforeMonth 3 (some .int)) ∈ mW := mW_at 336 (by decide +kernel) (by decide +kernel)
theorem kw_334 : (Cond.methodLink RX0 30 yX0_daysBeforeMonth) ∈ mW := mW_at 334 (by decide +kernel) (by decide +kernel)
theorem kw_335 : (Cond.static yX0_daysBeforeMonth) ∈ mW := mW_at 335 (by decide +kernel) (by decide +kernel)
theorem kw_339 : (Cond.code yX0_isLeap cX0_isLeap 1 (some .boolean)) ∈ mW := mW_at 339 (by decide +kernel) (by decide +kernel)
theorem kw_337 : (Cond.methodLink RX0 9 yX0_isLeap) ∈ mW := mW_at 337 (by decide +kernel) (by decide +kernel)
theorem kw_338 : (Cond.static yX0_isLeap) ∈ mW := mW_at 338 (by decide +kernel) (by decide +kernel)
theorem kw_342 : (Cond.code yX0_dayOfMonth cX0_dayOfMonth 1 (some .int)) ∈ mW := mW_at 342 (by decide +kernel) (by decide +kernel)
theorem kw_340 : (Cond.methodLink RX2 311 yX0_dayOfMonth) ∈ mW := mW_at 340 (by decide +kernel) (by decide +kernel)
theorem kw_341 : (Cond.static yX0_dayOfMonth) ∈ mW := mW_at 341 (by decide +kernel) (by decide +kernel)
theorem kw_345 : (Cond.code yX0_dayOfYear cX0_dayOfYear 1 (some .int)) ∈ mW := mW_at 345 (by decide +kernel) (by decide +kernel)
theorem kw_343 : (Cond.methodLink RX0 36 yX0_dayOfYear) ∈ mW := mW_at 343 (by decide +kernel) (by decide +kernel)
theorem kw_344 : (Cond.static yX0_dayOfYear) ∈ mW := mW_at 344 (by decide +kernel) (by decide +kernel)
theorem kw_346 : (Cond.methodLink RX0 39 yX0_monthOf) ∈ mW := mW_at 346 (by decide +kernel) (by decide +kernel)
theorem kw_347 : (Cond.methodLink RX2 350 yX0_dayOfYear) ∈ mW := mW_at 347 (by decide +kernel) (by decide +kernel)
theorem kw_351 : (Cond.code yX1_hour cX1_hour 1 (some .int)) ∈ mW := mW_at 351 (by decide +kernel) (by decide +kernel)
theorem kw_348 : (Cond.methodLink RX2 335 yX1_hour) ∈ mW := mW_at 348 (by decide +kernel) (by decide +kernel)
theorem kw_349 : (Cond.instanceMethod yX1_hour) ∈ mW := mW_at 349 (by decide +kernel) (by decide +kernel)
theorem kw_350 : (Cond.selects RX1 yX1_hour yX1_hour) ∈ mW := mW_at 350 (by decide +kernel) (by decide +kernel)
theorem kw_352 : (Cond.methodLink RX1 48 yX1_secondOfDay) ∈ mW := mW_at 352 (by decide +kernel) (by decide +kernel)
theorem kw_356 : (Cond.code yX1_minute cX1_minute 1 (some .int)) ∈ mW := mW_at 356 (by decide +kernel) (by decide +kernel)
theorem kw_353 : (Cond.methodLink RX2 342 yX1_minute) ∈ mW := mW_at 353 (by decide +kernel) (by decide +kernel)
theorem kw_354 : (Cond.instanceMethod yX1_minute) ∈ mW := mW_at 354 (by decide +kernel) (by decide +kernel)
theorem kw_355 : (Cond.selects RX1 yX1_minute yX1_minute) ∈ mW := mW_at 355 (by decide +kernel) (by decide +kernel)
theorem kw_360 : (Cond.code yX1_secondOfMinute cX1_secondOfMinute 1 (some .int)) ∈ mW := mW_at 360 (by decide +kernel) (by decide +kernel)
theorem kw_357 : (Cond.methodLink RX2 345 yX1_secondOfMinute) ∈ mW := mW_at 357 (by decide +kernel) (by decide +kernel)
theorem kw_358 : (Cond.instanceMethod yX1_secondOfMinute) ∈ mW := mW_at 358 (by decide +kernel) (by decide +kernel)
theorem kw_359 : (Cond.selects RX1 yX1_secondOfMinute yX1_secondOfMinute) ∈ mW := mW_at 359 (by decide +kernel) (by decide +kernel)
theorem kw_363 : (Cond.code yX0_dayOfWeek cX0_dayOfWeek 1 (some .int)) ∈ mW := mW_at 363 (by decide +kernel) (by decide +kernel)
theorem kw_361 : (Cond.methodLink RX2 353 yX0_dayOfWeek) ∈ mW := mW_at 361 (by decide +kernel) (by decide +kernel)
theorem kw_362 : (Cond.static yX0_dayOfWeek) ∈ mW := mW_at 362 (by decide +kernel) (by decide +kernel)
theorem kw_366 : (Cond.code yJ9_floorMod_7cf53 cJ9_floorMod_7cf53 3 (some .int)) ∈ mW := mW_at 366 (by decide +kernel) (by decide +kernel)
theorem kw_364 : (Cond.methodLink RX0 42 yJ9_floorMod_7cf53) ∈ mW := mW_at 364 (by decide +kernel) (by decide +kernel)
theorem kw_365 : (Cond.static yJ9_floorMod_7cf53) ∈ mW := mW_at 365 (by decide +kernel) (by decide +kernel)
theorem kw_370 : (Cond.code yX2_withClocks cX2_withClocks 7 (some .long)) ∈ mW := mW_at 370 (by decide +kernel) (by decide +kernel)
theorem kw_367 : (Cond.methodLink RX2 232 yX2_withClocks) ∈ mW := mW_at 367 (by decide +kernel) (by decide +kernel)
theorem kw_369 : (Cond.instanceMethod yX2_withClocks) ∈ mW := mW_at 369 (by decide +kernel) (by decide +kernel)
theorem kw_9 : (Cond.selects RX2 yX2_withClocks yX2_withClocks) ∈ mW := mW_at 9 (by decide +kernel) (by decide +kernel)
theorem kw_373 : (Cond.code yX2_clockPart cX2_clockPart 2 (some .int)) ∈ mW := mW_at 373 (by decide +kernel) (by decide +kernel)
theorem kw_371 : (Cond.methodLink RX2 193 yX2_clockPart) ∈ mW := mW_at 371 (by decide +kernel) (by decide +kernel)
theorem kw_372 : (Cond.static yX2_clockPart) ∈ mW := mW_at 372 (by decide +kernel) (by decide +kernel)
theorem kw_377 : (Cond.code yX2_withDatePairs cX2_withDatePairs 7 (some .long)) ∈ mW := mW_at 377 (by decide +kernel) (by decide +kernel)
theorem kw_374 : (Cond.methodLink RX2 235 yX2_withDatePairs) ∈ mW := mW_at 374 (by decide +kernel) (by decide +kernel)
theorem kw_376 : (Cond.instanceMethod yX2_withDatePairs) ∈ mW := mW_at 376 (by decide +kernel) (by decide +kernel)
theorem kw_10 : (Cond.selects RX2 yX2_withDatePairs yX2_withDatePairs) ∈ mW := mW_at 10 (by decide +kernel) (by decide +kernel)
theorem kw_381 : (Cond.code yX2_withClockPairs cX2_withClockPairs 7 (some .long)) ∈ mW := mW_at 381 (by decide +kernel) (by decide +kernel)
theorem kw_378 : (Cond.methodLink RX2 238 yX2_withClockPairs) ∈ mW := mW_at 378 (by decide +kernel) (by decide +kernel)
theorem kw_380 : (Cond.instanceMethod yX2_withClockPairs) ∈ mW := mW_at 380 (by decide +kernel) (by decide +kernel)
theorem kw_11 : (Cond.selects RX2 yX2_withClockPairs yX2_withClockPairs) ∈ mW := mW_at 11 (by decide +kernel) (by decide +kernel)
theorem kw_385 : (Cond.code yX2_withHouse cX2_withHouse 6 (some .long)) ∈ mW := mW_at 385 (by decide +kernel) (by decide +kernel)
theorem kw_382 : (Cond.methodLink RX2 241 yX2_withHouse) ∈ mW := mW_at 382 (by decide +kernel) (by decide +kernel)
theorem kw_384 : (Cond.instanceMethod yX2_withHouse) ∈ mW := mW_at 384 (by decide +kernel) (by decide +kernel)
theorem kw_12 : (Cond.selects RX2 yX2_withHouse yX2_withHouse) ∈ mW := mW_at 12 (by decide +kernel) (by decide +kernel)
theorem kw_389 : (Cond.code yX2_house cX2_house 2 (some .int)) ∈ mW := mW_at 389 (by decide +kernel) (by decide +kernel)
theorem kw_386 : (Cond.methodLink RX2 380 yX2_house) ∈ mW := mW_at 386 (by decide +kernel) (by decide +kernel)
theorem kw_387 : (Cond.instanceMethod yX2_house) ∈ mW := mW_at 387 (by decide +kernel) (by decide +kernel)
theorem kw_388 : (Cond.selects RX2 yX2_house yX2_house) ∈ mW := mW_at 388 (by decide +kernel) (by decide +kernel)
theorem kw_392 : (Cond.code yX2_requireWithin cX2_requireWithin 3 none) ∈ mW := mW_at 392 (by decide +kernel) (by decide +kernel)
theorem kw_390 : (Cond.methodLink RX2 40 yX2_requireWithin) ∈ mW := mW_at 390 (by decide +kernel) (by decide +kernel)
theorem kw_391 : (Cond.static yX2_requireWithin) ∈ mW := mW_at 391 (by decide +kernel) (by decide +kernel)
theorem kw_393 : (Cond.classLink RX2 257 "java/lang/IllegalArgumentException") ∈ mW := mW_at 393 (by decide +kernel) (by decide +kernel)
theorem kw_412 : (Cond.code yX2_firstDated cX2_firstDated 3 (some .int)) ∈ mW := mW_at 412 (by decide +kernel) (by decide +kernel)
theorem kw_409 : (Cond.methodLink RX2 202 yX2_firstDated) ∈ mW := mW_at 409 (by decide +kernel) (by decide +kernel)
theorem kw_411 : (Cond.instanceMethod yX2_firstDated) ∈ mW := mW_at 411 (by decide +kernel) (by decide +kernel)
theorem kw_13 : (Cond.selects RX2 yX2_firstDated yX2_firstDated) ∈ mW := mW_at 13 (by decide +kernel) (by decide +kernel)
theorem kw_416 : (Cond.code yX2_firstMoment cX2_firstMoment 3 (some .int)) ∈ mW := mW_at 416 (by decide +kernel) (by decide +kernel)
theorem kw_413 : (Cond.methodLink RX2 205 yX2_firstMoment) ∈ mW := mW_at 413 (by decide +kernel) (by decide +kernel)
theorem kw_415 : (Cond.instanceMethod yX2_firstMoment) ∈ mW := mW_at 415 (by decide +kernel) (by decide +kernel)
theorem kw_14 : (Cond.selects RX2 yX2_firstMoment yX2_firstMoment) ∈ mW := mW_at 14 (by decide +kernel) (by decide +kernel)
theorem kw_417 : (Cond.methodLink RX2 244 yX2_isSound) ∈ mW := mW_at 417 (by decide +kernel) (by decide +kernel)
theorem kw_418 : (Cond.classLink RL 14 RX3) ∈ mW := mW_at 418 (by decide +kernel) (by decide +kernel)
theorem kw_419 : (Cond.instantiable RX3 2) ∈ mW := mW_at 419 (by decide +kernel) (by decide +kernel)
theorem kw_420 : (Cond.methodLinkNest RL 133 yX3_init RL) ∈ mW := mW_at 420 (by decide +kernel) (by decide +kernel)
theorem kw_422 : (Cond.code yX3_init cX3_init 1 none) ∈ mW := mW_at 422 (by decide +kernel) (by decide +kernel)
theorem kw_421 : (Cond.instanceMethod yX3_init) ∈ mW := mW_at 421 (by decide +kernel) (by decide +kernel)
theorem kw_424 : (Cond.fieldLinkNest RL 13 "MomentdeskLaw$Out" "n" "J" RL) ∈ mW := mW_at 424 (by decide +kernel) (by decide +kernel)
theorem kw_425 : (Cond.fieldLinkNest RL 56 "MomentdeskLaw$Out" "s" "Ljava/lang/String;" RL) ∈ mW := mW_at 425 (by decide +kernel) (by decide +kernel)
theorem kw_433 : (Cond.codeWith yL_offset cL_offset 5 (some .int) [(0, 11, 14, 19), (0, 11, 18, 21)]) ∈ mW := mW_at 433 (by decide +kernel) (by decide +kernel)
theorem kw_431 : (Cond.methodLink RL 134 yL_offset) ∈ mW := mW_at 431 (by decide +kernel) (by decide +kernel)
theorem kw_432 : (Cond.static yL_offset) ∈ mW := mW_at 432 (by decide +kernel) (by decide +kernel)
theorem kw_434 : (Cond.classLink RL 19 "java/lang/IndexOutOfBoundsException") ∈ mW := mW_at 434 (by decide +kernel) (by decide +kernel)
theorem kw_435 : (Cond.classLink RL 21 "java/lang/IllegalArgumentException") ∈ mW := mW_at 435 (by decide +kernel) (by decide +kernel)
theorem kw_439 : (Cond.code yX2_offset cX2_offset 4 (some .int)) ∈ mW := mW_at 439 (by decide +kernel) (by decide +kernel)
theorem kw_436 : (Cond.methodLink RL 7 yX2_offset) ∈ mW := mW_at 436 (by decide +kernel) (by decide +kernel)
theorem kw_437 : (Cond.instanceMethod yX2_offset) ∈ mW := mW_at 437 (by decide +kernel) (by decide +kernel)
theorem kw_438 : (Cond.selects RX2 yX2_offset yX2_offset) ∈ mW := mW_at 438 (by decide +kernel) (by decide +kernel)
theorem kw_440 : (Cond.constant RX2 38 (-64800)) ∈ mW := mW_at 440 (by decide +kernel) (by decide +kernel)
theorem kw_441 : (Cond.constant RX2 39 (64800)) ∈ mW := mW_at 441 (by decide +kernel) (by decide +kernel)
theorem kw_444 : (Cond.codeWith yL_offsetOf cL_offsetOf 7 (some .int) [(0, 15, 18, 19)]) ∈ mW := mW_at 444 (by decide +kernel) (by decide +kernel)
theorem kw_442 : (Cond.methodLink RL 144 yL_offsetOf) ∈ mW := mW_at 442 (by decide +kernel) (by decide +kernel)
theorem kw_443 : (Cond.static yL_offsetOf) ∈ mW := mW_at 443 (by decide +kernel) (by decide +kernel)
theorem kw_448 : (Cond.code yX2_offsetOf cX2_offsetOf 8 (some .int)) ∈ mW := mW_at 448 (by decide +kernel) (by decide +kernel)
theorem kw_445 : (Cond.methodLink RL 23 yX2_offsetOf) ∈ mW := mW_at 445 (by decide +kernel) (by decide +kernel)
theorem kw_446 : (Cond.instanceMethod yX2_offsetOf) ∈ mW := mW_at 446 (by decide +kernel) (by decide +kernel)
theorem kw_447 : (Cond.selects RX2 yX2_offsetOf yX2_offsetOf) ∈ mW := mW_at 447 (by decide +kernel) (by decide +kernel)
theorem kw_449 : (Cond.constantLong RX2 44 (-18)) ∈ mW := mW_at 449 (by decide +kernel) (by decide +kernel)
theorem kw_450 : (Cond.constantLong RX2 46 (18)) ∈ mW := mW_at 450 (by decide +kernel) (by decide +kernel)
theorem kw_451 : (Cond.constantLong RX2 52 (-59)) ∈ mW := mW_at 451 (by decide +kernel) (by decide +kernel)
theorem kw_452 : (Cond.constantLong RX2 54 (59)) ∈ mW := mW_at 452 (by decide +kernel) (by decide +kernel)
theorem kw_456 : (Cond.code yX2_refused cX2_refused 1 (some .int)) ∈ mW := mW_at 456 (by decide +kernel) (by decide +kernel)
theorem kw_453 : (Cond.methodLink RX2 56 yX2_refused) ∈ mW := mW_at 453 (by decide +kernel) (by decide +kernel)
theorem kw_455 : (Cond.instanceMethod yX2_refused) ∈ mW := mW_at 455 (by decide +kernel) (by decide +kernel)
theorem kw_15 : (Cond.selects RX2 yX2_refused yX2_refused) ∈ mW := mW_at 15 (by decide +kernel) (by decide +kernel)
theorem kw_457 : (Cond.constantLong RX2 60 (-64800)) ∈ mW := mW_at 457 (by decide +kernel) (by decide +kernel)
theorem kw_458 : (Cond.constantLong RX2 62 (64800)) ∈ mW := mW_at 458 (by decide +kernel) (by decide +kernel)
theorem kw_461 : (Cond.codeWith yL_seconds cL_seconds 4 (some .int) [(0, 10, 13, 19)]) ∈ mW := mW_at 461 (by decide +kernel) (by decide +kernel)
theorem kw_459 : (Cond.methodLink RL 148 yL_seconds) ∈ mW := mW_at 459 (by decide +kernel) (by decide +kernel)
theorem kw_460 : (Cond.static yL_seconds) ∈ mW := mW_at 460 (by decide +kernel) (by decide +kernel)
theorem kw_462 : (Cond.methodLink RL 27 yX2_seconds) ∈ mW := mW_at 462 (by decide +kernel) (by decide +kernel)
theorem kw_465 : (Cond.codeWith yL_orderOffset cL_orderOffset 5 (some .int) [(0, 11, 14, 19)]) ∈ mW := mW_at 465 (by decide +kernel) (by decide +kernel)
theorem kw_463 : (Cond.methodLink RL 152 yL_orderOffset) ∈ mW := mW_at 463 (by decide +kernel) (by decide +kernel)
theorem kw_464 : (Cond.static yL_orderOffset) ∈ mW := mW_at 464 (by decide +kernel) (by decide +kernel)
theorem kw_469 : (Cond.code yX2_orderOffset cX2_orderOffset 3 (some .int)) ∈ mW := mW_at 469 (by decide +kernel) (by decide +kernel)
theorem kw_466 : (Cond.methodLink RL 31 yX2_orderOffset) ∈ mW := mW_at 466 (by decide +kernel) (by decide +kernel)
theorem kw_467 : (Cond.instanceMethod yX2_orderOffset) ∈ mW := mW_at 467 (by decide +kernel) (by decide +kernel)
theorem kw_468 : (Cond.selects RX2 yX2_orderOffset yX2_orderOffset) ∈ mW := mW_at 468 (by decide +kernel) (by decide +kernel)
theorem kw_470 : (Cond.methodLink RX2 68 yX2_compared) ∈ mW := mW_at 470 (by decide +kernel) (by decide +kernel)
theorem kw_473 : (Cond.codeWith yL_moment cL_moment 6 (some .int) [(0, 13, 16, 19)]) ∈ mW := mW_at 473 (by decide +kernel) (by decide +kernel)
theorem kw_471 : (Cond.methodLink RL 155 yL_moment) ∈ mW := mW_at 471 (by decide +kernel) (by decide +kernel)
theorem kw_472 : (Cond.static yL_moment) ∈ mW := mW_at 472 (by decide +kernel) (by decide +kernel)
theorem kw_477 : (Cond.code yX2_moment cX2_moment 4 (some .int)) ∈ mW := mW_at 477 (by decide +kernel) (by decide +kernel)
theorem kw_474 : (Cond.methodLink RL 34 yX2_moment) ∈ mW := mW_at 474 (by decide +kernel) (by decide +kernel)
theorem kw_475 : (Cond.instanceMethod yX2_moment) ∈ mW := mW_at 475 (by decide +kernel) (by decide +kernel)
theorem kw_476 : (Cond.selects RX2 yX2_moment yX2_moment) ∈ mW := mW_at 476 (by decide +kernel) (by decide +kernel)
theorem kw_481 : (Cond.code yX2_putNumber cX2_putNumber 4 (some .int)) ∈ mW := mW_at 481 (by decide +kernel) (by decide +kernel)
theorem kw_478 : (Cond.methodLink RX2 74 yX2_putNumber) ∈ mW := mW_at 478 (by decide +kernel) (by decide +kernel)
theorem kw_480 : (Cond.instanceMethod yX2_putNumber) ∈ mW := mW_at 480 (by decide +kernel) (by decide +kernel)
theorem kw_16 : (Cond.selects RX2 yX2_putNumber yX2_putNumber) ∈ mW := mW_at 16 (by decide +kernel) (by decide +kernel)
theorem kw_482 : (Cond.constantLong RX2 262 (-1800000000000000000)) ∈ mW := mW_at 482 (by decide +kernel) (by decide +kernel)
theorem kw_483 : (Cond.constantLong RX2 264 (1800000000999999999)) ∈ mW := mW_at 483 (by decide +kernel) (by decide +kernel)
theorem kw_486 : (Cond.codeWith yL_milli cL_milli 6 (some .int) [(0, 13, 16, 19)]) ∈ mW := mW_at 486 (by decide +kernel) (by decide +kernel)
theorem kw_484 : (Cond.methodLink RL 159 yL_milli) ∈ mW := mW_at 484 (by decide +kernel) (by decide +kernel)
theorem kw_485 : (Cond.static yL_milli) ∈ mW := mW_at 485 (by decide +kernel) (by decide +kernel)
theorem kw_490 : (Cond.code yX2_milli cX2_milli 4 (some .int)) ∈ mW := mW_at 490 (by decide +kernel) (by decide +kernel)
theorem kw_487 : (Cond.methodLink RL 38 yX2_milli) ∈ mW := mW_at 487 (by decide +kernel) (by decide +kernel)
theorem kw_488 : (Cond.instanceMethod yX2_milli) ∈ mW := mW_at 488 (by decide +kernel) (by decide +kernel)
theorem kw_489 : (Cond.selects RX2 yX2_milli yX2_milli) ∈ mW := mW_at 489 (by decide +kernel) (by decide +kernel)
theorem kw_491 : (Cond.constantLong RX2 78 (1000000)) ∈ mW := mW_at 491 (by decide +kernel) (by decide +kernel)
theorem kw_494 : (Cond.codeWith yL_move cL_move 7 (some .int) [(0, 15, 18, 19), (0, 15, 22, 21)]) ∈ mW := mW_at 494 (by decide +kernel) (by decide +kernel)
theorem kw_492 : (Cond.methodLink RL 162 yL_move) ∈ mW := mW_at 492 (by decide +kernel) (by decide +kernel)
theorem kw_493 : (Cond.static yL_move) ∈ mW := mW_at 493 (by decide +kernel) (by decide +kernel)
theorem kw_498 : (Cond.code yX2_move cX2_move 7 (some .int)) ∈ mW := mW_at 498 (by decide +kernel) (by decide +kernel)
theorem kw_495 : (Cond.methodLink RL 41 yX2_move) ∈ mW := mW_at 495 (by decide +kernel) (by decide +kernel)
theorem kw_496 : (Cond.instanceMethod yX2_move) ∈ mW := mW_at 496 (by decide +kernel) (by decide +kernel)
theorem kw_497 : (Cond.selects RX2 yX2_move yX2_move) ∈ mW := mW_at 497 (by decide +kernel) (by decide +kernel)
theorem kw_501 : (Cond.code yX2_signed cX2_signed 2 (some .long)) ∈ mW := mW_at 501 (by decide +kernel) (by decide +kernel)
theorem kw_499 : (Cond.methodLink RX2 80 yX2_signed) ∈ mW := mW_at 499 (by decide +kernel) (by decide +kernel)
theorem kw_500 : (Cond.static yX2_signed) ∈ mW := mW_at 500 (by decide +kernel) (by decide +kernel)
theorem kw_504 : (Cond.codeWith yL_momentOf cL_momentOf 5 (some .int) [(0, 11, 14, 19)]) ∈ mW := mW_at 504 (by decide +kernel) (by decide +kernel)
theorem kw_502 : (Cond.methodLink RL 166 yL_momentOf) ∈ mW := mW_at 502 (by decide +kernel) (by decide +kernel)
theorem kw_503 : (Cond.static yL_momentOf) ∈ mW := mW_at 503 (by decide +kernel) (by decide +kernel)
theorem kw_508 : (Cond.code yX2_momentOf cX2_momentOf 3 (some .int)) ∈ mW := mW_at 508 (by decide +kernel) (by decide +kernel)
theorem kw_505 : (Cond.methodLink RL 45 yX2_momentOf) ∈ mW := mW_at 505 (by decide +kernel) (by decide +kernel)
theorem kw_506 : (Cond.instanceMethod yX2_momentOf) ∈ mW := mW_at 506 (by decide +kernel) (by decide +kernel)
theorem kw_507 : (Cond.selects RX2 yX2_momentOf yX2_momentOf) ∈ mW := mW_at 507 (by decide +kernel) (by decide +kernel)
theorem kw_511 : (Cond.codeWith yL_ofMoment cL_ofMoment 5 (some .int) [(0, 11, 14, 19)]) ∈ mW := mW_at 511 (by decide +kernel) (by decide +kernel)
theorem kw_509 : (Cond.methodLink RL 169 yL_ofMoment) ∈ mW := mW_at 509 (by decide +kernel) (by decide +kernel)
theorem kw_510 : (Cond.static yL_ofMoment) ∈ mW := mW_at 510 (by decide +kernel) (by decide +kernel)
theorem kw_512 : (Cond.methodLink RL 48 yX2_ofMoment) ∈ mW := mW_at 512 (by decide +kernel) (by decide +kernel)
theorem kw_515 : (Cond.codeWith yL_millis cL_millis 4 (some .int) [(0, 9, 12, 19)]) ∈ mW := mW_at 515 (by decide +kernel) (by decide +kernel)
theorem kw_513 : (Cond.methodLink RL 173 yL_millis) ∈ mW := mW_at 513 (by decide +kernel) (by decide +kernel)
theorem kw_514 : (Cond.static yL_millis) ∈ mW := mW_at 514 (by decide +kernel) (by decide +kernel)
theorem kw_519 : (Cond.code yX2_millis cX2_millis 2 (some (.object "java/lang/String"))) ∈ mW := mW_at 519 (by decide +kernel) (by decide +kernel)
theorem kw_516 : (Cond.methodLink RL 52 yX2_millis) ∈ mW := mW_at 516 (by decide +kernel) (by decide +kernel)
theorem kw_517 : (Cond.instanceMethod yX2_millis) ∈ mW := mW_at 517 (by decide +kernel) (by decide +kernel)
theorem kw_518 : (Cond.selects RX2 yX2_millis yX2_millis) ∈ mW := mW_at 518 (by decide +kernel) (by decide +kernel)
theorem kw_522 : (Cond.code yX2_textOf cX2_textOf 6 (some (.object "java/lang/String"))) ∈ mW := mW_at 522 (by decide +kernel) (by decide +kernel)
theorem kw_520 : (Cond.methodLink RX2 106 yX2_textOf) ∈ mW := mW_at 520 (by decide +kernel) (by decide +kernel)
theorem kw_521 : (Cond.static yX2_textOf) ∈ mW := mW_at 521 (by decide +kernel) (by decide +kernel)
theorem kw_523 : (Cond.classLink RX2 280 "java/lang/StringBuilder") ∈ mW := mW_at 523 (by decide +kernel) (by decide +kernel)
theorem kw_556 : (Cond.code yJ9_abs_067f4 cJ9_abs_067f4 2 (some .long)) ∈ mW := mW_at 556 (by decide +kernel) (by decide +kernel)
theorem kw_554 : (Cond.methodLink RX2 283 yJ9_abs_067f4) ∈ mW := mW_at 554 (by decide +kernel) (by decide +kernel)
theorem kw_555 : (Cond.static yJ9_abs_067f4) ∈ mW := mW_at 555 (by decide +kernel) (by decide +kernel)
theorem kw_557 : (Cond.constantLong RX2 286 (48)) ∈ mW := mW_at 557 (by decide +kernel) (by decide +kernel)
theorem kw_558 : (Cond.constantLong RX2 288 (10)) ∈ mW := mW_at 558 (by decide +kernel) (by decide +kernel)
theorem kw_825 : (Cond.codeWith yL_orderMoment cL_orderMoment 5 (some .int) [(0, 11, 14, 19)]) ∈ mW := mW_at 825 (by decide +kernel) (by decide +kernel)
theorem kw_823 : (Cond.methodLink RL 176 yL_orderMoment) ∈ mW := mW_at 823 (by decide +kernel) (by decide +kernel)
theorem kw_824 : (Cond.static yL_orderMoment) ∈ mW := mW_at 824 (by decide +kernel) (by decide +kernel)
theorem kw_829 : (Cond.code yX2_orderMoment cX2_orderMoment 3 (some .int)) ∈ mW := mW_at 829 (by decide +kernel) (by decide +kernel)
theorem kw_826 : (Cond.methodLink RL 60 yX2_orderMoment) ∈ mW := mW_at 826 (by decide +kernel) (by decide +kernel)
theorem kw_827 : (Cond.instanceMethod yX2_orderMoment) ∈ mW := mW_at 827 (by decide +kernel) (by decide +kernel)
theorem kw_828 : (Cond.selects RX2 yX2_orderMoment yX2_orderMoment) ∈ mW := mW_at 828 (by decide +kernel) (by decide +kernel)
theorem kw_832 : (Cond.codeWith yL_isMoment cL_isMoment 6 (some .int) [(0, 20, 23, 19), (0, 20, 27, 21)]) ∈ mW := mW_at 832 (by decide +kernel) (by decide +kernel)
theorem kw_830 : (Cond.methodLink RL 179 yL_isMoment) ∈ mW := mW_at 830 (by decide +kernel) (by decide +kernel)
theorem kw_831 : (Cond.static yL_isMoment) ∈ mW := mW_at 831 (by decide +kernel) (by decide +kernel)
theorem kw_836 : (Cond.code yX2_isMoment cX2_isMoment 5 (some .boolean)) ∈ mW := mW_at 836 (by decide +kernel) (by decide +kernel)
theorem kw_833 : (Cond.methodLink RL 63 yX2_isMoment) ∈ mW := mW_at 833 (by decide +kernel) (by decide +kernel)
theorem kw_834 : (Cond.instanceMethod yX2_isMoment) ∈ mW := mW_at 834 (by decide +kernel) (by decide +kernel)
theorem kw_835 : (Cond.selects RX2 yX2_isMoment yX2_isMoment) ∈ mW := mW_at 835 (by decide +kernel) (by decide +kernel)
theorem kw_837 : (Cond.methodLink RX2 110 yX2_orderMoment) ∈ mW := mW_at 837 (by decide +kernel) (by decide +kernel)
theorem kw_840 : (Cond.codeWith yL_copyMoment cL_copyMoment 5 (some .int) [(0, 11, 14, 19)]) ∈ mW := mW_at 840 (by decide +kernel) (by decide +kernel)
theorem kw_838 : (Cond.methodLink RL 182 yL_copyMoment) ∈ mW := mW_at 838 (by decide +kernel) (by decide +kernel)
theorem kw_839 : (Cond.static yL_copyMoment) ∈ mW := mW_at 839 (by decide +kernel) (by decide +kernel)
theorem kw_844 : (Cond.code yX2_copyMoment cX2_copyMoment 3 (some .int)) ∈ mW := mW_at 844 (by decide +kernel) (by decide +kernel)
theorem kw_841 : (Cond.methodLink RL 67 yX2_copyMoment) ∈ mW := mW_at 841 (by decide +kernel) (by decide +kernel)
theorem kw_842 : (Cond.instanceMethod yX2_copyMoment) ∈ mW := mW_at 842 (by decide +kernel) (by decide +kernel)
theorem kw_843 : (Cond.selects RX2 yX2_copyMoment yX2_copyMoment) ∈ mW := mW_at 843 (by decide +kernel) (by decide +kernel)
theorem kw_847 : (Cond.codeWith yL_date cL_date 9 (some .int) [(0, 19, 22, 19), (0, 19, 26, 21)]) ∈ mW := mW_at 847 (by decide +kernel) (by decide +kernel)
theorem kw_845 : (Cond.methodLink RL 185 yL_date) ∈ mW := mW_at 845 (by decide +kernel) (by decide +kernel)
theorem kw_846 : (Cond.static yL_date) ∈ mW := mW_at 846 (by decide +kernel) (by decide +kernel)
theorem kw_851 : (Cond.code yX2_date cX2_date 11 (some .int)) ∈ mW := mW_at 851 (by decide +kernel) (by decide +kernel)
theorem kw_848 : (Cond.methodLink RL 70 yX2_date) ∈ mW := mW_at 848 (by decide +kernel) (by decide +kernel)
theorem kw_849 : (Cond.instanceMethod yX2_date) ∈ mW := mW_at 849 (by decide +kernel) (by decide +kernel)
theorem kw_850 : (Cond.selects RX2 yX2_date yX2_date) ∈ mW := mW_at 850 (by decide +kernel) (by decide +kernel)
theorem kw_852 : (Cond.constant RX2 114 (86399)) ∈ mW := mW_at 852 (by decide +kernel) (by decide +kernel)
theorem kw_853 : (Cond.constant RX2 115 (999999999)) ∈ mW := mW_at 853 (by decide +kernel) (by decide +kernel)
theorem kw_854 : (Cond.constantLong RX2 116 (1910)) ∈ mW := mW_at 854 (by decide +kernel) (by decide +kernel)
theorem kw_855 : (Cond.constantLong RX2 118 (2030)) ∈ mW := mW_at 855 (by decide +kernel) (by decide +kernel)
theorem kw_858 : (Cond.code yX0_isDay cX0_isDay 3 (some .boolean)) ∈ mW := mW_at 858 (by decide +kernel) (by decide +kernel)
theorem kw_856 : (Cond.methodLink RX2 120 yX0_isDay) ∈ mW := mW_at 856 (by decide +kernel) (by decide +kernel)
theorem kw_857 : (Cond.static yX0_isDay) ∈ mW := mW_at 857 (by decide +kernel) (by decide +kernel)
theorem kw_859 : (Cond.constantLong RX0 15 (12)) ∈ mW := mW_at 859 (by decide +kernel) (by decide +kernel)
theorem kw_860 : (Cond.methodLinkNest RX0 17 yX2_isWithin RX2) ∈ mW := mW_at 860 (by decide +kernel) (by decide +kernel)
theorem kw_863 : (Cond.code yX0_lengthOfMonth cX0_lengthOfMonth 2 (some .int)) ∈ mW := mW_at 863 (by decide +kernel) (by decide +kernel)
theorem kw_861 : (Cond.methodLink RX0 21 yX0_lengthOfMonth) ∈ mW := mW_at 861 (by decide +kernel) (by decide +kernel)
theorem kw_862 : (Cond.static yX0_lengthOfMonth) ∈ mW := mW_at 862 (by decide +kernel) (by decide +kernel)
theorem kw_866 : (Cond.code yX0_dayOf cX0_dayOf 3 (some .int)) ∈ mW := mW_at 866 (by decide +kernel) (by decide +kernel)
theorem kw_864 : (Cond.methodLink RX2 126 yX0_dayOf) ∈ mW := mW_at 864 (by decide +kernel) (by decide +kernel)
theorem kw_865 : (Cond.static yX0_dayOf) ∈ mW := mW_at 865 (by decide +kernel) (by decide +kernel)
theorem kw_867 : (Cond.constantLong RX2 130 (86400)) ∈ mW := mW_at 867 (by decide +kernel) (by decide +kernel)
theorem kw_871 : (Cond.code yX2_putLocal cX2_putLocal 6 (some .int)) ∈ mW := mW_at 871 (by decide +kernel) (by decide +kernel)
theorem kw_868 : (Cond.methodLink RX2 132 yX2_putLocal) ∈ mW := mW_at 868 (by decide +kernel) (by decide +kernel)
theorem kw_870 : (Cond.instanceMethod yX2_putLocal) ∈ mW := mW_at 870 (by decide +kernel) (by decide +kernel)
theorem kw_17 : (Cond.selects RX2 yX2_putLocal yX2_putLocal) ∈ mW := mW_at 17 (by decide +kernel) (by decide +kernel)
theorem kw_874 : (Cond.codeWith yL_dateOf cL_dateOf 6 (some .int) [(0, 13, 16, 19)]) ∈ mW := mW_at 874 (by decide +kernel) (by decide +kernel)
theorem kw_872 : (Cond.methodLink RL 189 yL_dateOf) ∈ mW := mW_at 872 (by decide +kernel) (by decide +kernel)
theorem kw_873 : (Cond.static yL_dateOf) ∈ mW := mW_at 873 (by decide +kernel) (by decide +kernel)
theorem kw_878 : (Cond.code yX2_dateOf cX2_dateOf 8 (some .int)) ∈ mW := mW_at 878 (by decide +kernel) (by decide +kernel)
theorem kw_875 : (Cond.methodLink RL 74 yX2_dateOf) ∈ mW := mW_at 875 (by decide +kernel) (by decide +kernel)
theorem kw_876 : (Cond.instanceMethod yX2_dateOf) ∈ mW := mW_at 876 (by decide +kernel) (by decide +kernel)
theorem kw_877 : (Cond.selects RX2 yX2_dateOf yX2_dateOf) ∈ mW := mW_at 877 (by decide +kernel) (by decide +kernel)
theorem kw_881 : (Cond.codeWith yL_moveDate cL_moveDate 7 (some .int) [(0, 15, 18, 19), (0, 15, 22, 21)]) ∈ mW := mW_at 881 (by decide +kernel) (by decide +kernel)
theorem kw_879 : (Cond.methodLink RL 192 yL_moveDate) ∈ mW := mW_at 879 (by decide +kernel) (by decide +kernel)
theorem kw_880 : (Cond.static yL_moveDate) ∈ mW := mW_at 880 (by decide +kernel) (by decide +kernel)
theorem kw_885 : (Cond.code yX2_moveDate cX2_moveDate 8 (some .int)) ∈ mW := mW_at 885 (by decide +kernel) (by decide +kernel)
theorem kw_882 : (Cond.methodLink RL 77 yX2_moveDate) ∈ mW := mW_at 882 (by decide +kernel) (by decide +kernel)
theorem kw_883 : (Cond.instanceMethod yX2_moveDate) ∈ mW := mW_at 883 (by decide +kernel) (by decide +kernel)
theorem kw_884 : (Cond.selects RX2 yX2_moveDate yX2_moveDate) ∈ mW := mW_at 884 (by decide +kernel) (by decide +kernel)
theorem kw_889 : (Cond.code yX1_months cX1_months 1 (some .long)) ∈ mW := mW_at 889 (by decide +kernel) (by decide +kernel)
theorem kw_886 : (Cond.methodLink RX2 136 yX1_months) ∈ mW := mW_at 886 (by decide +kernel) (by decide +kernel)
theorem kw_887 : (Cond.instanceMethod yX1_months) ∈ mW := mW_at 887 (by decide +kernel) (by decide +kernel)
theorem kw_888 : (Cond.selects RX1 yX1_months yX1_months) ∈ mW := mW_at 888 (by decide +kernel) (by decide +kernel)
theorem kw_890 : (Cond.methodLink RX1 34 yX0_yearOf) ∈ mW := mW_at 890 (by decide +kernel) (by decide +kernel)
theorem kw_891 : (Cond.constantLong RX1 40 (12)) ∈ mW := mW_at 891 (by decide +kernel) (by decide +kernel)
theorem kw_892 : (Cond.methodLink RX1 42 yX0_monthOf) ∈ mW := mW_at 892 (by decide +kernel) (by decide +kernel)
theorem kw_893 : (Cond.constantLong RX2 140 (12)) ∈ mW := mW_at 893 (by decide +kernel) (by decide +kernel)
theorem kw_897 : (Cond.code yX2_putMonths cX2_putMonths 9 (some .int)) ∈ mW := mW_at 897 (by decide +kernel) (by decide +kernel)
theorem kw_894 : (Cond.methodLink RX2 142 yX2_putMonths) ∈ mW := mW_at 894 (by decide +kernel) (by decide +kernel)
theorem kw_896 : (Cond.instanceMethod yX2_putMonths) ∈ mW := mW_at 896 (by decide +kernel) (by decide +kernel)
theorem kw_18 : (Cond.selects RX2 yX2_putMonths yX2_putMonths) ∈ mW := mW_at 18 (by decide +kernel) (by decide +kernel)
theorem kw_898 : (Cond.methodLink RX2 308 yX0_lengthOfMonth) ∈ mW := mW_at 898 (by decide +kernel) (by decide +kernel)
theorem kw_597 : (Cond.code yJ9_min_7cf53 cJ9_min_7cf53 2 (some .int)) ∈ mW := mW_at 597 (by decide +kernel) (by decide +kernel)
theorem kw_899 : (Cond.methodLink RX2 314 yJ9_min_7cf53) ∈ mW := mW_at 899 (by decide +kernel) (by decide +kernel)
theorem kw_596 : (Cond.static yJ9_min_7cf53) ∈ mW := mW_at 596 (by decide +kernel) (by decide +kernel)
theorem kw_903 : (Cond.code yX2_putDay cX2_putDay 3 (some .int)) ∈ mW := mW_at 903 (by decide +kernel) (by decide +kernel)
theorem kw_900 : (Cond.methodLink RX2 317 yX2_putDay) ∈ mW := mW_at 900 (by decide +kernel) (by decide +kernel)
theorem kw_902 : (Cond.instanceMethod yX2_putDay) ∈ mW := mW_at 902 (by decide +kernel) (by decide +kernel)
theorem kw_19 : (Cond.selects RX2 yX2_putDay yX2_putDay) ∈ mW := mW_at 19 (by decide +kernel) (by decide +kernel)
theorem kw_906 : (Cond.code yX2_secondsOn cX2_secondsOn 4 (some .long)) ∈ mW := mW_at 906 (by decide +kernel) (by decide +kernel)
theorem kw_904 : (Cond.methodLink RX2 150 yX2_secondsOn) ∈ mW := mW_at 904 (by decide +kernel) (by decide +kernel)
theorem kw_905 : (Cond.static yX2_secondsOn) ∈ mW := mW_at 905 (by decide +kernel) (by decide +kernel)
theorem kw_907 : (Cond.constantLong RX2 302 (7)) ∈ mW := mW_at 907 (by decide +kernel) (by decide +kernel)
theorem kw_908 : (Cond.constantLong RX2 304 (3600)) ∈ mW := mW_at 908 (by decide +kernel) (by decide +kernel)
theorem kw_909 : (Cond.constantLong RX2 306 (60)) ∈ mW := mW_at 909 (by decide +kernel) (by decide +kernel)
theorem kw_912 : (Cond.code yX2_nanoOn cX2_nanoOn 4 (some .int)) ∈ mW := mW_at 912 (by decide +kernel) (by decide +kernel)
theorem kw_910 : (Cond.methodLink RX2 154 yX2_nanoOn) ∈ mW := mW_at 910 (by decide +kernel) (by decide +kernel)
theorem kw_911 : (Cond.static yX2_nanoOn) ∈ mW := mW_at 911 (by decide +kernel) (by decide +kernel)
theorem kw_915 : (Cond.codeWith yL_set cL_set 6 (some .int) [(0, 13, 16, 19), (0, 13, 20, 21)]) ∈ mW := mW_at 915 (by decide +kernel) (by decide +kernel)
theorem kw_913 : (Cond.methodLink RL 195 yL_set) ∈ mW := mW_at 913 (by decide +kernel) (by decide +kernel)
theorem kw_914 : (Cond.static yL_set) ∈ mW := mW_at 914 (by decide +kernel) (by decide +kernel)
theorem kw_919 : (Cond.code yX2_set cX2_set 5 (some .int)) ∈ mW := mW_at 919 (by decide +kernel) (by decide +kernel)
theorem kw_916 : (Cond.methodLink RL 80 yX2_set) ∈ mW := mW_at 916 (by decide +kernel) (by decide +kernel)
theorem kw_917 : (Cond.instanceMethod yX2_set) ∈ mW := mW_at 917 (by decide +kernel) (by decide +kernel)
theorem kw_918 : (Cond.selects RX2 yX2_set yX2_set) ∈ mW := mW_at 918 (by decide +kernel) (by decide +kernel)
theorem kw_923 : (Cond.code yX2_setOfDay cX2_setOfDay 6 (some .int)) ∈ mW := mW_at 923 (by decide +kernel) (by decide +kernel)
theorem kw_920 : (Cond.methodLink RX2 162 yX2_setOfDay) ∈ mW := mW_at 920 (by decide +kernel) (by decide +kernel)
theorem kw_922 : (Cond.instanceMethod yX2_setOfDay) ∈ mW := mW_at 922 (by decide +kernel) (by decide +kernel)
theorem kw_20 : (Cond.selects RX2 yX2_setOfDay yX2_setOfDay) ∈ mW := mW_at 20 (by decide +kernel) (by decide +kernel)
theorem kw_926 : (Cond.code yX0_lengthOfYear cX0_lengthOfYear 1 (some .int)) ∈ mW := mW_at 926 (by decide +kernel) (by decide +kernel)
theorem kw_924 : (Cond.methodLink RX2 329 yX0_lengthOfYear) ∈ mW := mW_at 924 (by decide +kernel) (by decide +kernel)
theorem kw_925 : (Cond.static yX0_lengthOfYear) ∈ mW := mW_at 925 (by decide +kernel) (by decide +kernel)
theorem kw_927 : (Cond.methodLink RX2 332 yX0_firstDayOf) ∈ mW := mW_at 927 (by decide +kernel) (by decide +kernel)
theorem kw_931 : (Cond.code yX2_setOfTime cX2_setOfTime 4 (some .int)) ∈ mW := mW_at 931 (by decide +kernel) (by decide +kernel)
theorem kw_928 : (Cond.methodLink RX2 166 yX2_setOfTime) ∈ mW := mW_at 928 (by decide +kernel) (by decide +kernel)
theorem kw_930 : (Cond.instanceMethod yX2_setOfTime) ∈ mW := mW_at 930 (by decide +kernel) (by decide +kernel)
theorem kw_21 : (Cond.selects RX2 yX2_setOfTime yX2_setOfTime) ∈ mW := mW_at 21 (by decide +kernel) (by decide +kernel)
theorem kw_935 : (Cond.code yX2_setPart cX2_setPart 7 (some .int)) ∈ mW := mW_at 935 (by decide +kernel) (by decide +kernel)
theorem kw_932 : (Cond.methodLink RX2 338 yX2_setPart) ∈ mW := mW_at 932 (by decide +kernel) (by decide +kernel)
theorem kw_934 : (Cond.instanceMethod yX2_setPart) ∈ mW := mW_at 934 (by decide +kernel) (by decide +kernel)
theorem kw_22 : (Cond.selects RX2 yX2_setPart yX2_setPart) ∈ mW := mW_at 22 (by decide +kernel) (by decide +kernel)
theorem kw_936 : (Cond.constantLong RX2 348 (999999999)) ∈ mW := mW_at 936 (by decide +kernel) (by decide +kernel)
theorem kw_939 : (Cond.codeWith yL_anew cL_anew 6 (some .int) [(0, 13, 16, 19)]) ∈ mW := mW_at 939 (by decide +kernel) (by decide +kernel)
theorem kw_937 : (Cond.methodLink RL 198 yL_anew) ∈ mW := mW_at 937 (by decide +kernel) (by decide +kernel)
theorem kw_938 : (Cond.static yL_anew) ∈ mW := mW_at 938 (by decide +kernel) (by decide +kernel)
theorem kw_943 : (Cond.code yX2_anew cX2_anew 8 (some .int)) ∈ mW := mW_at 943 (by decide +kernel) (by decide +kernel)
theorem kw_940 : (Cond.methodLink RL 83 yX2_anew) ∈ mW := mW_at 940 (by decide +kernel) (by decide +kernel)
theorem kw_941 : (Cond.instanceMethod yX2_anew) ∈ mW := mW_at 941 (by decide +kernel) (by decide +kernel)
theorem kw_942 : (Cond.selects RX2 yX2_anew yX2_anew) ∈ mW := mW_at 942 (by decide +kernel) (by decide +kernel)
theorem kw_946 : (Cond.codeWith yL_copy cL_copy 5 (some .int) [(0, 11, 14, 19)]) ∈ mW := mW_at 946 (by decide +kernel) (by decide +kernel)
theorem kw_944 : (Cond.methodLink RL 202 yL_copy) ∈ mW := mW_at 944 (by decide +kernel) (by decide +kernel)
theorem kw_945 : (Cond.static yL_copy) ∈ mW := mW_at 945 (by decide +kernel) (by decide +kernel)
theorem kw_950 : (Cond.code yX2_copy cX2_copy 5 (some .int)) ∈ mW := mW_at 950 (by decide +kernel) (by decide +kernel)
theorem kw_947 : (Cond.methodLink RL 87 yX2_copy) ∈ mW := mW_at 947 (by decide +kernel) (by decide +kernel)
theorem kw_948 : (Cond.instanceMethod yX2_copy) ∈ mW := mW_at 948 (by decide +kernel) (by decide +kernel)
theorem kw_949 : (Cond.selects RX2 yX2_copy yX2_copy) ∈ mW := mW_at 949 (by decide +kernel) (by decide +kernel)
theorem kw_953 : (Cond.codeWith yL_ofDate cL_ofDate 5 (some .int) [(0, 11, 14, 19), (0, 11, 18, 21)]) ∈ mW := mW_at 953 (by decide +kernel) (by decide +kernel)
theorem kw_951 : (Cond.methodLink RL 205 yL_ofDate) ∈ mW := mW_at 951 (by decide +kernel) (by decide +kernel)
theorem kw_952 : (Cond.static yL_ofDate) ∈ mW := mW_at 952 (by decide +kernel) (by decide +kernel)
theorem kw_957 : (Cond.code yX2_ofDate cX2_ofDate 4 (some .int)) ∈ mW := mW_at 957 (by decide +kernel) (by decide +kernel)
theorem kw_954 : (Cond.methodLink RL 90 yX2_ofDate) ∈ mW := mW_at 954 (by decide +kernel) (by decide +kernel)
theorem kw_955 : (Cond.instanceMethod yX2_ofDate) ∈ mW := mW_at 955 (by decide +kernel) (by decide +kernel)
theorem kw_956 : (Cond.selects RX2 yX2_ofDate yX2_ofDate) ∈ mW := mW_at 956 (by decide +kernel) (by decide +kernel)
theorem kw_960 : (Cond.codeWith yL_orderDate cL_orderDate 5 (some .int) [(0, 11, 14, 19)]) ∈ mW := mW_at 960 (by decide +kernel) (by decide +kernel)
theorem kw_958 : (Cond.methodLink RL 208 yL_orderDate) ∈ mW := mW_at 958 (by decide +kernel) (by decide +kernel)
theorem kw_959 : (Cond.static yL_orderDate) ∈ mW := mW_at 959 (by decide +kernel) (by decide +kernel)
theorem kw_964 : (Cond.code yX2_orderDate cX2_orderDate 3 (some .int)) ∈ mW := mW_at 964 (by decide +kernel) (by decide +kernel)
theorem kw_961 : (Cond.methodLink RL 93 yX2_orderDate) ∈ mW := mW_at 961 (by decide +kernel) (by decide +kernel)
theorem kw_962 : (Cond.instanceMethod yX2_orderDate) ∈ mW := mW_at 962 (by decide +kernel) (by decide +kernel)
theorem kw_963 : (Cond.selects RX2 yX2_orderDate yX2_orderDate) ∈ mW := mW_at 963 (by decide +kernel) (by decide +kernel)
theorem kw_967 : (Cond.codeWith yL_isDate cL_isDate 6 (some .int) [(0, 20, 23, 19), (0, 20, 27, 21)]) ∈ mW := mW_at 967 (by decide +kernel) (by decide +kernel)
theorem kw_965 : (Cond.methodLink RL 211 yL_isDate) ∈ mW := mW_at 965 (by decide +kernel) (by decide +kernel)
theorem kw_966 : (Cond.static yL_isDate) ∈ mW := mW_at 966 (by decide +kernel) (by decide +kernel)
theorem kw_971 : (Cond.code yX2_isDate cX2_isDate 6 (some .boolean)) ∈ mW := mW_at 971 (by decide +kernel) (by decide +kernel)
theorem kw_968 : (Cond.methodLink RL 96 yX2_isDate) ∈ mW := mW_at 968 (by decide +kernel) (by decide +kernel)
theorem kw_969 : (Cond.instanceMethod yX2_isDate) ∈ mW := mW_at 969 (by decide +kernel) (by decide +kernel)
theorem kw_970 : (Cond.selects RX2 yX2_isDate yX2_isDate) ∈ mW := mW_at 970 (by decide +kernel) (by decide +kernel)
theorem kw_974 : (Cond.code yX2_isSo cX2_isSo 3 (some .boolean)) ∈ mW := mW_at 974 (by decide +kernel) (by decide +kernel)
theorem kw_972 : (Cond.methodLink RX2 183 yX2_isSo) ∈ mW := mW_at 972 (by decide +kernel) (by decide +kernel)
theorem kw_973 : (Cond.static yX2_isSo) ∈ mW := mW_at 973 (by decide +kernel) (by decide +kernel)
theorem kw_977 : (Cond.codeWith yL_clock cL_clock 7 (some .int) [(0, 15, 18, 19), (0, 15, 22, 21)]) ∈ mW := mW_at 977 (by decide +kernel) (by decide +kernel)
theorem kw_975 : (Cond.methodLink RL 214 yL_clock) ∈ mW := mW_at 975 (by decide +kernel) (by decide +kernel)
theorem kw_976 : (Cond.static yL_clock) ∈ mW := mW_at 976 (by decide +kernel) (by decide +kernel)
theorem kw_981 : (Cond.code yX2_clock cX2_clock 7 (some .int)) ∈ mW := mW_at 981 (by decide +kernel) (by decide +kernel)
theorem kw_978 : (Cond.methodLink RL 99 yX2_clock) ∈ mW := mW_at 978 (by decide +kernel) (by decide +kernel)
theorem kw_979 : (Cond.instanceMethod yX2_clock) ∈ mW := mW_at 979 (by decide +kernel) (by decide +kernel)
theorem kw_980 : (Cond.selects RX2 yX2_clock yX2_clock) ∈ mW := mW_at 980 (by decide +kernel) (by decide +kernel)
theorem kw_985 : (Cond.code yX2_putClock cX2_putClock 6 (some .int)) ∈ mW := mW_at 985 (by decide +kernel) (by decide +kernel)
theorem kw_982 : (Cond.methodLink RX2 187 yX2_putClock) ∈ mW := mW_at 982 (by decide +kernel) (by decide +kernel)
theorem kw_984 : (Cond.instanceMethod yX2_putClock) ∈ mW := mW_at 984 (by decide +kernel) (by decide +kernel)
theorem kw_23 : (Cond.selects RX2 yX2_putClock yX2_putClock) ∈ mW := mW_at 23 (by decide +kernel) (by decide +kernel)
theorem kw_988 : (Cond.codeWith yL_clockOf cL_clockOf 5 (some .int) [(0, 11, 14, 19)]) ∈ mW := mW_at 988 (by decide +kernel) (by decide +kernel)
theorem kw_986 : (Cond.methodLink RL 217 yL_clockOf) ∈ mW := mW_at 986 (by decide +kernel) (by decide +kernel)
theorem kw_987 : (Cond.static yL_clockOf) ∈ mW := mW_at 987 (by decide +kernel) (by decide +kernel)
theorem kw_992 : (Cond.code yX2_clockOf cX2_clockOf 5 (some .int)) ∈ mW := mW_at 992 (by decide +kernel) (by decide +kernel)
theorem kw_989 : (Cond.methodLink RL 102 yX2_clockOf) ∈ mW := mW_at 989 (by decide +kernel) (by decide +kernel)
theorem kw_990 : (Cond.instanceMethod yX2_clockOf) ∈ mW := mW_at 990 (by decide +kernel) (by decide +kernel)
theorem kw_991 : (Cond.selects RX2 yX2_clockOf yX2_clockOf) ∈ mW := mW_at 991 (by decide +kernel) (by decide +kernel)
theorem kw_995 : (Cond.codeWith yL_strike cL_strike 5 (some .int) [(0, 11, 14, 19)]) ∈ mW := mW_at 995 (by decide +kernel) (by decide +kernel)
theorem kw_993 : (Cond.methodLink RL 220 yL_strike) ∈ mW := mW_at 993 (by decide +kernel) (by decide +kernel)
theorem kw_994 : (Cond.static yL_strike) ∈ mW := mW_at 994 (by decide +kernel) (by decide +kernel)
theorem kw_999 : (Cond.code yX2_strike cX2_strike 5 (some .int)) ∈ mW := mW_at 999 (by decide +kernel) (by decide +kernel)
theorem kw_996 : (Cond.methodLink RL 105 yX2_strike) ∈ mW := mW_at 996 (by decide +kernel) (by decide +kernel)
theorem kw_997 : (Cond.instanceMethod yX2_strike) ∈ mW := mW_at 997 (by decide +kernel) (by decide +kernel)
theorem kw_998 : (Cond.selects RX2 yX2_strike yX2_strike) ∈ mW := mW_at 998 (by decide +kernel) (by decide +kernel)
theorem kw_1002 : (Cond.codeWith yL_moveClock cL_moveClock 7 (some .int) [(0, 15, 18, 19), (0, 15, 22, 21)]) ∈ mW := mW_at 1002 (by decide +kernel) (by decide +kernel)
theorem kw_1000 : (Cond.methodLink RL 223 yL_moveClock) ∈ mW := mW_at 1000 (by decide +kernel) (by decide +kernel)
theorem kw_1001 : (Cond.static yL_moveClock) ∈ mW := mW_at 1001 (by decide +kernel) (by decide +kernel)
theorem kw_1006 : (Cond.code yX2_moveClock cX2_moveClock 8 (some .int)) ∈ mW := mW_at 1006 (by decide +kernel) (by decide +kernel)
theorem kw_1003 : (Cond.methodLink RL 108 yX2_moveClock) ∈ mW := mW_at 1003 (by decide +kernel) (by decide +kernel)
theorem kw_1004 : (Cond.instanceMethod yX2_moveClock) ∈ mW := mW_at 1004 (by decide +kernel) (by decide +kernel)
theorem kw_1005 : (Cond.selects RX2 yX2_moveClock yX2_moveClock) ∈ mW := mW_at 1005 (by decide +kernel) (by decide +kernel)
theorem kw_1009 : (Cond.codeWith yL_anewClock cL_anewClock 6 (some .int) [(0, 13, 16, 19)]) ∈ mW := mW_at 1009 (by decide +kernel) (by decide +kernel)
theorem kw_1007 : (Cond.methodLink RL 226 yL_anewClock) ∈ mW := mW_at 1007 (by decide +kernel) (by decide +kernel)
theorem kw_1008 : (Cond.static yL_anewClock) ∈ mW := mW_at 1008 (by decide +kernel) (by decide +kernel)
theorem kw_1013 : (Cond.code yX2_anewClock cX2_anewClock 8 (some .int)) ∈ mW := mW_at 1013 (by decide +kernel) (by decide +kernel)
theorem kw_1010 : (Cond.methodLink RL 111 yX2_anewClock) ∈ mW := mW_at 1010 (by decide +kernel) (by decide +kernel)
theorem kw_1011 : (Cond.instanceMethod yX2_anewClock) ∈ mW := mW_at 1011 (by decide +kernel) (by decide +kernel)
theorem kw_1012 : (Cond.selects RX2 yX2_anewClock yX2_anewClock) ∈ mW := mW_at 1012 (by decide +kernel) (by decide +kernel)
theorem kw_1016 : (Cond.codeWith yL_copyClock cL_copyClock 5 (some .int) [(0, 11, 14, 19)]) ∈ mW := mW_at 1016 (by decide +kernel) (by decide +kernel)
theorem kw_1014 : (Cond.methodLink RL 229 yL_copyClock) ∈ mW := mW_at 1014 (by decide +kernel) (by decide +kernel)
theorem kw_1015 : (Cond.static yL_copyClock) ∈ mW := mW_at 1015 (by decide +kernel) (by decide +kernel)
theorem kw_1020 : (Cond.code yX2_copyClock cX2_copyClock 5 (some .int)) ∈ mW := mW_at 1020 (by decide +kernel) (by decide +kernel)
theorem kw_1017 : (Cond.methodLink RL 114 yX2_copyClock) ∈ mW := mW_at 1017 (by decide +kernel) (by decide +kernel)
theorem kw_1018 : (Cond.instanceMethod yX2_copyClock) ∈ mW := mW_at 1018 (by decide +kernel) (by decide +kernel)
theorem kw_1019 : (Cond.selects RX2 yX2_copyClock yX2_copyClock) ∈ mW := mW_at 1019 (by decide +kernel) (by decide +kernel)
theorem kw_1023 : (Cond.codeWith yL_ofClock cL_ofClock 5 (some .int) [(0, 11, 14, 19), (0, 11, 18, 21)]) ∈ mW := mW_at 1023 (by decide +kernel) (by decide +kernel)
theorem kw_1021 : (Cond.methodLink RL 232 yL_ofClock) ∈ mW := mW_at 1021 (by decide +kernel) (by decide +kernel)
theorem kw_1022 : (Cond.static yL_ofClock) ∈ mW := mW_at 1022 (by decide +kernel) (by decide +kernel)
theorem kw_1027 : (Cond.code yX2_ofClock cX2_ofClock 4 (some .int)) ∈ mW := mW_at 1027 (by decide +kernel) (by decide +kernel)
theorem kw_1024 : (Cond.methodLink RL 117 yX2_ofClock) ∈ mW := mW_at 1024 (by decide +kernel) (by decide +kernel)
theorem kw_1025 : (Cond.instanceMethod yX2_ofClock) ∈ mW := mW_at 1025 (by decide +kernel) (by decide +kernel)
theorem kw_1026 : (Cond.selects RX2 yX2_ofClock yX2_ofClock) ∈ mW := mW_at 1026 (by decide +kernel) (by decide +kernel)
theorem kw_1030 : (Cond.codeWith yL_orderClock cL_orderClock 5 (some .int) [(0, 11, 14, 19)]) ∈ mW := mW_at 1030 (by decide +kernel) (by decide +kernel)
theorem kw_1028 : (Cond.methodLink RL 235 yL_orderClock) ∈ mW := mW_at 1028 (by decide +kernel) (by decide +kernel)
theorem kw_1029 : (Cond.static yL_orderClock) ∈ mW := mW_at 1029 (by decide +kernel) (by decide +kernel)
theorem kw_1034 : (Cond.code yX2_orderClock cX2_orderClock 3 (some .int)) ∈ mW := mW_at 1034 (by decide +kernel) (by decide +kernel)
theorem kw_1031 : (Cond.methodLink RL 120 yX2_orderClock) ∈ mW := mW_at 1031 (by decide +kernel) (by decide +kernel)
theorem kw_1032 : (Cond.instanceMethod yX2_orderClock) ∈ mW := mW_at 1032 (by decide +kernel) (by decide +kernel)
theorem kw_1033 : (Cond.selects RX2 yX2_orderClock yX2_orderClock) ∈ mW := mW_at 1033 (by decide +kernel) (by decide +kernel)
theorem kw_1037 : (Cond.codeWith yL_isClock cL_isClock 6 (some .int) [(0, 20, 23, 19), (0, 20, 27, 21)]) ∈ mW := mW_at 1037 (by decide +kernel) (by decide +kernel)
theorem kw_1035 : (Cond.methodLink RL 238 yL_isClock) ∈ mW := mW_at 1035 (by decide +kernel) (by decide +kernel)
theorem kw_1036 : (Cond.static yL_isClock) ∈ mW := mW_at 1036 (by decide +kernel) (by decide +kernel)
theorem kw_1041 : (Cond.code yX2_isClock cX2_isClock 6 (some .boolean)) ∈ mW := mW_at 1041 (by decide +kernel) (by decide +kernel)
theorem kw_1038 : (Cond.methodLink RL 123 yX2_isClock) ∈ mW := mW_at 1038 (by decide +kernel) (by decide +kernel)
theorem kw_1039 : (Cond.instanceMethod yX2_isClock) ∈ mW := mW_at 1039 (by decide +kernel) (by decide +kernel)
theorem kw_1040 : (Cond.selects RX2 yX2_isClock yX2_isClock) ∈ mW := mW_at 1040 (by decide +kernel) (by decide +kernel)
theorem kw_1044 : (Cond.codeWith yL_house cL_house 4 (some .int) [(0, 10, 13, 21)]) ∈ mW := mW_at 1044 (by decide +kernel) (by decide +kernel)
theorem kw_1042 : (Cond.methodLink RL 245 yL_house) ∈ mW := mW_at 1042 (by decide +kernel) (by decide +kernel)
theorem kw_1043 : (Cond.static yL_house) ∈ mW := mW_at 1043 (by decide +kernel) (by decide +kernel)
theorem kw_1045 : (Cond.methodLink RL 126 yX2_house) ∈ mW := mW_at 1045 (by decide +kernel) (by decide +kernel)
theorem kw_1046 : (Cond.classLink RL 130 RX4) ∈ mW := mW_at 1046 (by decide +kernel) (by decide +kernel)
theorem kw_1047 : (Cond.instantiable RX4 9) ∈ mW := mW_at 1047 (by decide +kernel) (by decide +kernel)
theorem kw_1052 : (Cond.fieldLink RX4 29 "MomentdeskModel" "thrown" "I") ∈ mW := mW_at 1052 (by decide +kernel) (by decide +kernel)
theorem kw_1053 : (Cond.fieldLink RX4 219 "MomentdeskModel" "knocks" "I") ∈ mW := mW_at 1053 (by decide +kernel) (by decide +kernel)
theorem kw_1054 : (Cond.fieldLink RX4 33 "MomentdeskModel" "refusals" "I") ∈ mW := mW_at 1054 (by decide +kernel) (by decide +kernel)
theorem kw_1055 : (Cond.fieldLink RX4 7 "MomentdeskModel" "offsets" "[I") ∈ mW := mW_at 1055 (by decide +kernel) (by decide +kernel)
theorem kw_1056 : (Cond.fieldLink RX4 13 "MomentdeskModel" "moments" "[J") ∈ mW := mW_at 1056 (by decide +kernel) (by decide +kernel)
theorem kw_1057 : (Cond.fieldLink RX4 17 "MomentdeskModel" "days" "[I") ∈ mW := mW_at 1057 (by decide +kernel) (by decide +kernel)
theorem kw_1058 : (Cond.fieldLink RX4 20 "MomentdeskModel" "seconds" "[I") ∈ mW := mW_at 1058 (by decide +kernel) (by decide +kernel)
theorem kw_1059 : (Cond.fieldLink RX4 23 "MomentdeskModel" "nanos" "[I") ∈ mW := mW_at 1059 (by decide +kernel) (by decide +kernel)
theorem kw_1060 : (Cond.fieldLink RX4 26 "MomentdeskModel" "owns" "[I") ∈ mW := mW_at 1060 (by decide +kernel) (by decide +kernel)
theorem kw_1083 : (Cond.code yX4_thrown cX4_thrown 1 (some .int)) ∈ mW := mW_at 1083 (by decide +kernel) (by decide +kernel)
theorem kw_1080 : (Cond.methodLink RL 140 yX4_thrown) ∈ mW := mW_at 1080 (by decide +kernel) (by decide +kernel)
theorem kw_1081 : (Cond.instanceMethod yX4_thrown) ∈ mW := mW_at 1081 (by decide +kernel) (by decide +kernel)
theorem kw_1082 : (Cond.selects RX4 yX4_thrown yX4_thrown) ∈ mW := mW_at 1082 (by decide +kernel) (by decide +kernel)
theorem kw_1087 : (Cond.code yX4_offset cX4_offset 4 (some .int)) ∈ mW := mW_at 1087 (by decide +kernel) (by decide +kernel)
theorem kw_1084 : (Cond.methodLink RL 139 yX4_offset) ∈ mW := mW_at 1084 (by decide +kernel) (by decide +kernel)
theorem kw_1085 : (Cond.instanceMethod yX4_offset) ∈ mW := mW_at 1085 (by decide +kernel) (by decide +kernel)
theorem kw_1086 : (Cond.selects RX4 yX4_offset yX4_offset) ∈ mW := mW_at 1086 (by decide +kernel) (by decide +kernel)
theorem kw_1090 : (Cond.code yX4_isNone cX4_isNone 1 (some .boolean)) ∈ mW := mW_at 1090 (by decide +kernel) (by decide +kernel)
theorem kw_1088 : (Cond.methodLink RX4 61 yX4_isNone) ∈ mW := mW_at 1088 (by decide +kernel) (by decide +kernel)
theorem kw_1089 : (Cond.static yX4_isNone) ∈ mW := mW_at 1089 (by decide +kernel) (by decide +kernel)
theorem kw_1091 : (Cond.constantLong RX4 36 (3)) ∈ mW := mW_at 1091 (by decide +kernel) (by decide +kernel)
theorem kw_1094 : (Cond.code yX4_isIn cX4_isIn 6 (some .boolean)) ∈ mW := mW_at 1094 (by decide +kernel) (by decide +kernel)
theorem kw_1092 : (Cond.methodLink RX4 38 yX4_isIn) ∈ mW := mW_at 1092 (by decide +kernel) (by decide +kernel)
theorem kw_1093 : (Cond.static yX4_isIn) ∈ mW := mW_at 1093 (by decide +kernel) (by decide +kernel)
theorem kw_1095 : (Cond.constantLong RX4 64 (-64800)) ∈ mW := mW_at 1095 (by decide +kernel) (by decide +kernel)
theorem kw_1096 : (Cond.constantLong RX4 66 (64800)) ∈ mW := mW_at 1096 (by decide +kernel) (by decide +kernel)
theorem kw_1100 : (Cond.code yX4_isStopped cX4_isStopped 3 (some .boolean)) ∈ mW := mW_at 1100 (by decide +kernel) (by decide +kernel)
theorem kw_1097 : (Cond.methodLink RX4 68 yX4_isStopped) ∈ mW := mW_at 1097 (by decide +kernel) (by decide +kernel)
theorem kw_1099 : (Cond.instanceMethod yX4_isStopped) ∈ mW := mW_at 1099 (by decide +kernel) (by decide +kernel)
theorem kw_24 : (Cond.selects RX4 yX4_isStopped yX4_isStopped) ∈ mW := mW_at 24 (by decide +kernel) (by decide +kernel)
theorem kw_1104 : (Cond.code yX4_offsetOf cX4_offsetOf 7 (some .int)) ∈ mW := mW_at 1104 (by decide +kernel) (by decide +kernel)
theorem kw_1101 : (Cond.methodLink RL 147 yX4_offsetOf) ∈ mW := mW_at 1101 (by decide +kernel) (by decide +kernel)
theorem kw_1102 : (Cond.instanceMethod yX4_offsetOf) ∈ mW := mW_at 1102 (by decide +kernel) (by decide +kernel)
theorem kw_1103 : (Cond.selects RX4 yX4_offsetOf yX4_offsetOf) ∈ mW := mW_at 1103 (by decide +kernel) (by decide +kernel)
theorem kw_1105 : (Cond.constantLong RX4 72 (-18)) ∈ mW := mW_at 1105 (by decide +kernel) (by decide +kernel)
theorem kw_1106 : (Cond.constantLong RX4 74 (18)) ∈ mW := mW_at 1106 (by decide +kernel) (by decide +kernel)
theorem kw_1107 : (Cond.constantLong RX4 76 (-59)) ∈ mW := mW_at 1107 (by decide +kernel) (by decide +kernel)
theorem kw_1108 : (Cond.constantLong RX4 78 (59)) ∈ mW := mW_at 1108 (by decide +kernel) (by decide +kernel)
theorem kw_1112 : (Cond.code yX4_no cX4_no 1 (some .int)) ∈ mW := mW_at 1112 (by decide +kernel) (by decide +kernel)
theorem kw_1109 : (Cond.methodLink RX4 80 yX4_no) ∈ mW := mW_at 1109 (by decide +kernel) (by decide +kernel)
theorem kw_1111 : (Cond.instanceMethod yX4_no) ∈ mW := mW_at 1111 (by decide +kernel) (by decide +kernel)
theorem kw_25 : (Cond.selects RX4 yX4_no yX4_no) ∈ mW := mW_at 25 (by decide +kernel) (by decide +kernel)
theorem kw_1116 : (Cond.code yX4_seconds cX4_seconds 2 (some .int)) ∈ mW := mW_at 1116 (by decide +kernel) (by decide +kernel)
theorem kw_1113 : (Cond.methodLink RL 151 yX4_seconds) ∈ mW := mW_at 1113 (by decide +kernel) (by decide +kernel)
theorem kw_1114 : (Cond.instanceMethod yX4_seconds) ∈ mW := mW_at 1114 (by decide +kernel) (by decide +kernel)
theorem kw_1115 : (Cond.selects RX4 yX4_seconds yX4_seconds) ∈ mW := mW_at 1115 (by decide +kernel) (by decide +kernel)
theorem kw_1120 : (Cond.code yX4_orderOffset cX4_orderOffset 3 (some .int)) ∈ mW := mW_at 1120 (by decide +kernel) (by decide +kernel)
theorem kw_1117 : (Cond.methodLink RL 154 yX4_orderOffset) ∈ mW := mW_at 1117 (by decide +kernel) (by decide +kernel)
theorem kw_1118 : (Cond.instanceMethod yX4_orderOffset) ∈ mW := mW_at 1118 (by decide +kernel) (by decide +kernel)
theorem kw_1119 : (Cond.selects RX4 yX4_orderOffset yX4_orderOffset) ∈ mW := mW_at 1119 (by decide +kernel) (by decide +kernel)
theorem kw_1123 : (Cond.code yX4_order cX4_order 4 (some .int)) ∈ mW := mW_at 1123 (by decide +kernel) (by decide +kernel)
theorem kw_1121 : (Cond.methodLink RX4 88 yX4_order) ∈ mW := mW_at 1121 (by decide +kernel) (by decide +kernel)
theorem kw_1122 : (Cond.static yX4_order) ∈ mW := mW_at 1122 (by decide +kernel) (by decide +kernel)
theorem kw_1126 : (Cond.code yX4_one cX4_one 1 (some .int)) ∈ mW := mW_at 1126 (by decide +kernel) (by decide +kernel)
theorem kw_1124 : (Cond.methodLink RX4 84 yX4_one) ∈ mW := mW_at 1124 (by decide +kernel) (by decide +kernel)
theorem kw_1125 : (Cond.static yX4_one) ∈ mW := mW_at 1125 (by decide +kernel) (by decide +kernel)
theorem kw_1130 : (Cond.code yX4_moment cX4_moment 4 (some .int)) ∈ mW := mW_at 1130 (by decide +kernel) (by decide +kernel)
theorem kw_1127 : (Cond.methodLink RL 158 yX4_moment) ∈ mW := mW_at 1127 (by decide +kernel) (by decide +kernel)
theorem kw_1128 : (Cond.instanceMethod yX4_moment) ∈ mW := mW_at 1128 (by decide +kernel) (by decide +kernel)
theorem kw_1129 : (Cond.selects RX4 yX4_moment yX4_moment) ∈ mW := mW_at 1129 (by decide +kernel) (by decide +kernel)
theorem kw_1131 : (Cond.constantLong RX4 96 (1000000000)) ∈ mW := mW_at 1131 (by decide +kernel) (by decide +kernel)
theorem kw_1135 : (Cond.code yX4_become cX4_become 4 (some .int)) ∈ mW := mW_at 1135 (by decide +kernel) (by decide +kernel)
theorem kw_1132 : (Cond.methodLink RX4 105 yX4_become) ∈ mW := mW_at 1132 (by decide +kernel) (by decide +kernel)
theorem kw_1134 : (Cond.instanceMethod yX4_become) ∈ mW := mW_at 1134 (by decide +kernel) (by decide +kernel)
theorem kw_26 : (Cond.selects RX4 yX4_become yX4_become) ∈ mW := mW_at 26 (by decide +kernel) (by decide +kernel)
theorem kw_1138 : (Cond.code yX4_whole cX4_whole 4 (some .long)) ∈ mW := mW_at 1138 (by decide +kernel) (by decide +kernel)
theorem kw_1136 : (Cond.methodLink RX4 92 yX4_whole) ∈ mW := mW_at 1136 (by decide +kernel) (by decide +kernel)
theorem kw_1137 : (Cond.static yX4_whole) ∈ mW := mW_at 1137 (by decide +kernel) (by decide +kernel)
theorem kw_1139 : (Cond.constantLong RX4 98 (-1800000000)) ∈ mW := mW_at 1139 (by decide +kernel) (by decide +kernel)
theorem kw_1140 : (Cond.constantLong RX4 100 (1800000000)) ∈ mW := mW_at 1140 (by decide +kernel) (by decide +kernel)
theorem kw_1143 : (Cond.code yX4_rest cX4_rest 4 (some .int)) ∈ mW := mW_at 1143 (by decide +kernel) (by decide +kernel)
theorem kw_1141 : (Cond.methodLink RX4 102 yX4_rest) ∈ mW := mW_at 1141 (by decide +kernel) (by decide +kernel)
theorem kw_1142 : (Cond.static yX4_rest) ∈ mW := mW_at 1142 (by decide +kernel) (by decide +kernel)
theorem kw_1147 : (Cond.code yX4_milli cX4_milli 4 (some .int)) ∈ mW := mW_at 1147 (by decide +kernel) (by decide +kernel)
theorem kw_1144 : (Cond.methodLink RL 161 yX4_milli) ∈ mW := mW_at 1144 (by decide +kernel) (by decide +kernel)
theorem kw_1145 : (Cond.instanceMethod yX4_milli) ∈ mW := mW_at 1145 (by decide +kernel) (by decide +kernel)
theorem kw_1146 : (Cond.selects RX4 yX4_milli yX4_milli) ∈ mW := mW_at 1146 (by decide +kernel) (by decide +kernel)
theorem kw_1148 : (Cond.constantLong RX4 109 (1000)) ∈ mW := mW_at 1148 (by decide +kernel) (by decide +kernel)
theorem kw_1149 : (Cond.constantLong RX4 111 (1000000)) ∈ mW := mW_at 1149 (by decide +kernel) (by decide +kernel)
theorem kw_1153 : (Cond.code yX4_move cX4_move 7 (some .int)) ∈ mW := mW_at 1153 (by decide +kernel) (by decide +kernel)
theorem kw_1150 : (Cond.methodLink RL 165 yX4_move) ∈ mW := mW_at 1150 (by decide +kernel) (by decide +kernel)
theorem kw_1151 : (Cond.instanceMethod yX4_move) ∈ mW := mW_at 1151 (by decide +kernel) (by decide +kernel)
theorem kw_1152 : (Cond.selects RX4 yX4_move yX4_move) ∈ mW := mW_at 1152 (by decide +kernel) (by decide +kernel)
theorem kw_1154 : (Cond.constantLong RX4 42 (2)) ∈ mW := mW_at 1154 (by decide +kernel) (by decide +kernel)
theorem kw_1158 : (Cond.code yX4_momentOf cX4_momentOf 3 (some .int)) ∈ mW := mW_at 1158 (by decide +kernel) (by decide +kernel)
theorem kw_1155 : (Cond.methodLink RL 168 yX4_momentOf) ∈ mW := mW_at 1155 (by decide +kernel) (by decide +kernel)
theorem kw_1156 : (Cond.instanceMethod yX4_momentOf) ∈ mW := mW_at 1156 (by decide +kernel) (by decide +kernel)
theorem kw_1157 : (Cond.selects RX4 yX4_momentOf yX4_momentOf) ∈ mW := mW_at 1157 (by decide +kernel) (by decide +kernel)
theorem kw_1162 : (Cond.code yX4_number cX4_number 2 (some .long)) ∈ mW := mW_at 1162 (by decide +kernel) (by decide +kernel)
theorem kw_1159 : (Cond.methodLink RX4 115 yX4_number) ∈ mW := mW_at 1159 (by decide +kernel) (by decide +kernel)
theorem kw_1161 : (Cond.instanceMethod yX4_number) ∈ mW := mW_at 1161 (by decide +kernel) (by decide +kernel)
theorem kw_27 : (Cond.selects RX4 yX4_number yX4_number) ∈ mW := mW_at 27 (by decide +kernel) (by decide +kernel)
theorem kw_1163 : (Cond.constantLong RX4 113 (86400)) ∈ mW := mW_at 1163 (by decide +kernel) (by decide +kernel)
theorem kw_1167 : (Cond.code yX4_copyMoment cX4_copyMoment 3 (some .int)) ∈ mW := mW_at 1167 (by decide +kernel) (by decide +kernel)
theorem kw_1164 : (Cond.methodLink RL 184 yX4_copyMoment) ∈ mW := mW_at 1164 (by decide +kernel) (by decide +kernel)
theorem kw_1165 : (Cond.instanceMethod yX4_copyMoment) ∈ mW := mW_at 1165 (by decide +kernel) (by decide +kernel)
theorem kw_1166 : (Cond.selects RX4 yX4_copyMoment yX4_copyMoment) ∈ mW := mW_at 1166 (by decide +kernel) (by decide +kernel)
theorem kw_1171 : (Cond.code yX4_ofMoment cX4_ofMoment 3 (some .int)) ∈ mW := mW_at 1171 (by decide +kernel) (by decide +kernel)
theorem kw_1168 : (Cond.methodLink RL 172 yX4_ofMoment) ∈ mW := mW_at 1168 (by decide +kernel) (by decide +kernel)
theorem kw_1169 : (Cond.instanceMethod yX4_ofMoment) ∈ mW := mW_at 1169 (by decide +kernel) (by decide +kernel)
theorem kw_1170 : (Cond.selects RX4 yX4_ofMoment yX4_ofMoment) ∈ mW := mW_at 1170 (by decide +kernel) (by decide +kernel)
theorem kw_1175 : (Cond.code yX4_millis cX4_millis 2 (some (.object "java/lang/String"))) ∈ mW := mW_at 1175 (by decide +kernel) (by decide +kernel)
theorem kw_1172 : (Cond.methodLink RL 175 yX4_millis) ∈ mW := mW_at 1172 (by decide +kernel) (by decide +kernel)
theorem kw_1173 : (Cond.instanceMethod yX4_millis) ∈ mW := mW_at 1173 (by decide +kernel) (by decide +kernel)
theorem kw_1174 : (Cond.selects RX4 yX4_millis yX4_millis) ∈ mW := mW_at 1174 (by decide +kernel) (by decide +kernel)
theorem kw_1177 : (Cond.classLink RX4 121 "java/lang/StringBuilder") ∈ mW := mW_at 1177 (by decide +kernel) (by decide +kernel)
theorem kw_1211 : (Cond.code yX4_orderMoment cX4_orderMoment 3 (some .int)) ∈ mW := mW_at 1211 (by decide +kernel) (by decide +kernel)
theorem kw_1208 : (Cond.methodLink RL 178 yX4_orderMoment) ∈ mW := mW_at 1208 (by decide +kernel) (by decide +kernel)
theorem kw_1209 : (Cond.instanceMethod yX4_orderMoment) ∈ mW := mW_at 1209 (by decide +kernel) (by decide +kernel)
theorem kw_1210 : (Cond.selects RX4 yX4_orderMoment yX4_orderMoment) ∈ mW := mW_at 1210 (by decide +kernel) (by decide +kernel)
theorem kw_1215 : (Cond.code yX4_isMoment cX4_isMoment 4 (some .boolean)) ∈ mW := mW_at 1215 (by decide +kernel) (by decide +kernel)
theorem kw_1212 : (Cond.methodLink RL 181 yX4_isMoment) ∈ mW := mW_at 1212 (by decide +kernel) (by decide +kernel)
theorem kw_1213 : (Cond.instanceMethod yX4_isMoment) ∈ mW := mW_at 1213 (by decide +kernel) (by decide +kernel)
theorem kw_1214 : (Cond.selects RX4 yX4_isMoment yX4_isMoment) ∈ mW := mW_at 1214 (by decide +kernel) (by decide +kernel)
theorem kw_1219 : (Cond.code yX4_date cX4_date 7 (some .int)) ∈ mW := mW_at 1219 (by decide +kernel) (by decide +kernel)
theorem kw_1216 : (Cond.methodLink RL 188 yX4_date) ∈ mW := mW_at 1216 (by decide +kernel) (by decide +kernel)
theorem kw_1217 : (Cond.instanceMethod yX4_date) ∈ mW := mW_at 1217 (by decide +kernel) (by decide +kernel)
theorem kw_1218 : (Cond.selects RX4 yX4_date yX4_date) ∈ mW := mW_at 1218 (by decide +kernel) (by decide +kernel)
theorem kw_1220 : (Cond.constantLong RX4 153 (9999)) ∈ mW := mW_at 1220 (by decide +kernel) (by decide +kernel)
theorem kw_1223 : (Cond.code yX4_isTime cX4_isTime 2 (some .boolean)) ∈ mW := mW_at 1223 (by decide +kernel) (by decide +kernel)
theorem kw_1221 : (Cond.methodLink RX4 155 yX4_isTime) ∈ mW := mW_at 1221 (by decide +kernel) (by decide +kernel)
theorem kw_1222 : (Cond.static yX4_isTime) ∈ mW := mW_at 1222 (by decide +kernel) (by decide +kernel)
theorem kw_1224 : (Cond.constantLong RX4 143 (86399)) ∈ mW := mW_at 1224 (by decide +kernel) (by decide +kernel)
theorem kw_1225 : (Cond.constantLong RX4 145 (999999999)) ∈ mW := mW_at 1225 (by decide +kernel) (by decide +kernel)
theorem kw_1228 : (Cond.code yX4_isThere cX4_isThere 3 (some .boolean)) ∈ mW := mW_at 1228 (by decide +kernel) (by decide +kernel)
theorem kw_1226 : (Cond.methodLink RX4 159 yX4_isThere) ∈ mW := mW_at 1226 (by decide +kernel) (by decide +kernel)
theorem kw_1227 : (Cond.static yX4_isThere) ∈ mW := mW_at 1227 (by decide +kernel) (by decide +kernel)
theorem kw_1229 : (Cond.constantLong RX4 147 (1910)) ∈ mW := mW_at 1229 (by decide +kernel) (by decide +kernel)
theorem kw_1230 : (Cond.constantLong RX4 149 (2030)) ∈ mW := mW_at 1230 (by decide +kernel) (by decide +kernel)
theorem kw_1231 : (Cond.constantLong RX4 151 (12)) ∈ mW := mW_at 1231 (by decide +kernel) (by decide +kernel)
theorem kw_1234 : (Cond.code yX4_daysOf cX4_daysOf 2 (some .int)) ∈ mW := mW_at 1234 (by decide +kernel) (by decide +kernel)
theorem kw_1232 : (Cond.methodLink RX4 55 yX4_daysOf) ∈ mW := mW_at 1232 (by decide +kernel) (by decide +kernel)
theorem kw_1233 : (Cond.static yX4_daysOf) ∈ mW := mW_at 1233 (by decide +kernel) (by decide +kernel)
theorem kw_1237 : (Cond.code yX4_isLeap cX4_isLeap 1 (some .boolean)) ∈ mW := mW_at 1237 (by decide +kernel) (by decide +kernel)
theorem kw_1235 : (Cond.methodLink RX4 44 yX4_isLeap) ∈ mW := mW_at 1235 (by decide +kernel) (by decide +kernel)
theorem kw_1236 : (Cond.static yX4_isLeap) ∈ mW := mW_at 1236 (by decide +kernel) (by decide +kernel)
theorem kw_1240 : (Cond.code yX4_dayOf cX4_dayOf 5 (some .int)) ∈ mW := mW_at 1240 (by decide +kernel) (by decide +kernel)
theorem kw_1238 : (Cond.methodLink RX4 163 yX4_dayOf) ∈ mW := mW_at 1238 (by decide +kernel) (by decide +kernel)
theorem kw_1239 : (Cond.static yX4_dayOf) ∈ mW := mW_at 1239 (by decide +kernel) (by decide +kernel)
theorem kw_1243 : (Cond.code yX4_firstOf cX4_firstOf 3 (some .int)) ∈ mW := mW_at 1243 (by decide +kernel) (by decide +kernel)
theorem kw_1241 : (Cond.methodLink RX4 52 yX4_firstOf) ∈ mW := mW_at 1241 (by decide +kernel) (by decide +kernel)
theorem kw_1242 : (Cond.static yX4_firstOf) ∈ mW := mW_at 1242 (by decide +kernel) (by decide +kernel)
theorem kw_1246 : (Cond.code yX4_daysOf_ cX4_daysOf_ 1 (some .int)) ∈ mW := mW_at 1246 (by decide +kernel) (by decide +kernel)
theorem kw_1244 : (Cond.methodLink RX4 48 yX4_daysOf_) ∈ mW := mW_at 1244 (by decide +kernel) (by decide +kernel)
theorem kw_1245 : (Cond.static yX4_daysOf_) ∈ mW := mW_at 1245 (by decide +kernel) (by decide +kernel)
theorem kw_1250 : (Cond.code yX4_put cX4_put 6 (some .int)) ∈ mW := mW_at 1250 (by decide +kernel) (by decide +kernel)
theorem kw_1247 : (Cond.methodLink RX4 139 yX4_put) ∈ mW := mW_at 1247 (by decide +kernel) (by decide +kernel)
theorem kw_1249 : (Cond.instanceMethod yX4_put) ∈ mW := mW_at 1249 (by decide +kernel) (by decide +kernel)
theorem kw_28 : (Cond.selects RX4 yX4_put yX4_put) ∈ mW := mW_at 28 (by decide +kernel) (by decide +kernel)
theorem kw_1254 : (Cond.code yX4_dateOf cX4_dateOf 4 (some .int)) ∈ mW := mW_at 1254 (by decide +kernel) (by decide +kernel)
theorem kw_1251 : (Cond.methodLink RL 191 yX4_dateOf) ∈ mW := mW_at 1251 (by decide +kernel) (by decide +kernel)
theorem kw_1252 : (Cond.instanceMethod yX4_dateOf) ∈ mW := mW_at 1252 (by decide +kernel) (by decide +kernel)
theorem kw_1253 : (Cond.selects RX4 yX4_dateOf yX4_dateOf) ∈ mW := mW_at 1253 (by decide +kernel) (by decide +kernel)
theorem kw_1258 : (Cond.code yX4_put_ cX4_put_ 10 (some .int)) ∈ mW := mW_at 1258 (by decide +kernel) (by decide +kernel)
theorem kw_1255 : (Cond.methodLink RX4 167 yX4_put_) ∈ mW := mW_at 1255 (by decide +kernel) (by decide +kernel)
theorem kw_1257 : (Cond.instanceMethod yX4_put_) ∈ mW := mW_at 1257 (by decide +kernel) (by decide +kernel)
theorem kw_29 : (Cond.selects RX4 yX4_put_ yX4_put_) ∈ mW := mW_at 29 (by decide +kernel) (by decide +kernel)
theorem kw_1261 : (Cond.code yX4_isDay cX4_isDay 2 (some .boolean)) ∈ mW := mW_at 1261 (by decide +kernel) (by decide +kernel)
theorem kw_1259 : (Cond.methodLink RX4 135 yX4_isDay) ∈ mW := mW_at 1259 (by decide +kernel) (by decide +kernel)
theorem kw_1260 : (Cond.static yX4_isDay) ∈ mW := mW_at 1260 (by decide +kernel) (by decide +kernel)
theorem kw_1265 : (Cond.code yX4_moveDate cX4_moveDate 9 (some .int)) ∈ mW := mW_at 1265 (by decide +kernel) (by decide +kernel)
theorem kw_1262 : (Cond.methodLink RL 194 yX4_moveDate) ∈ mW := mW_at 1262 (by decide +kernel) (by decide +kernel)
theorem kw_1263 : (Cond.instanceMethod yX4_moveDate) ∈ mW := mW_at 1263 (by decide +kernel) (by decide +kernel)
theorem kw_1264 : (Cond.selects RX4 yX4_moveDate yX4_moveDate) ∈ mW := mW_at 1264 (by decide +kernel) (by decide +kernel)
theorem kw_1266 : (Cond.constantLong RX4 183 (7)) ∈ mW := mW_at 1266 (by decide +kernel) (by decide +kernel)
theorem kw_1270 : (Cond.code yX4_moveMonths cX4_moveMonths 9 (some .int)) ∈ mW := mW_at 1270 (by decide +kernel) (by decide +kernel)
theorem kw_1267 : (Cond.methodLink RX4 185 yX4_moveMonths) ∈ mW := mW_at 1267 (by decide +kernel) (by decide +kernel)
theorem kw_1269 : (Cond.instanceMethod yX4_moveMonths) ∈ mW := mW_at 1269 (by decide +kernel) (by decide +kernel)
theorem kw_30 : (Cond.selects RX4 yX4_moveMonths yX4_moveMonths) ∈ mW := mW_at 30 (by decide +kernel) (by decide +kernel)
theorem kw_1273 : (Cond.code yX4_parts cX4_parts 5 (some (.array .int))) ∈ mW := mW_at 1273 (by decide +kernel) (by decide +kernel)
theorem kw_1271 : (Cond.methodLink RX4 170 yX4_parts) ∈ mW := mW_at 1271 (by decide +kernel) (by decide +kernel)
theorem kw_1272 : (Cond.static yX4_parts) ∈ mW := mW_at 1272 (by decide +kernel) (by decide +kernel)
theorem kw_1276 : (Cond.code yX4_yearOf cX4_yearOf 3 (some .int)) ∈ mW := mW_at 1276 (by decide +kernel) (by decide +kernel)
theorem kw_1274 : (Cond.methodLink RX4 58 yX4_yearOf) ∈ mW := mW_at 1274 (by decide +kernel) (by decide +kernel)
theorem kw_1275 : (Cond.static yX4_yearOf) ∈ mW := mW_at 1275 (by decide +kernel) (by decide +kernel)
theorem kw_1280 : (Cond.code yX4_putDay cX4_putDay 5 (some .int)) ∈ mW := mW_at 1280 (by decide +kernel) (by decide +kernel)
theorem kw_1277 : (Cond.methodLink RX4 174 yX4_putDay) ∈ mW := mW_at 1277 (by decide +kernel) (by decide +kernel)
theorem kw_1279 : (Cond.instanceMethod yX4_putDay) ∈ mW := mW_at 1279 (by decide +kernel) (by decide +kernel)
theorem kw_31 : (Cond.selects RX4 yX4_putDay yX4_putDay) ∈ mW := mW_at 31 (by decide +kernel) (by decide +kernel)
theorem kw_1281 : (Cond.methodLink RX4 178 yJ9_min_7cf53) ∈ mW := mW_at 1281 (by decide +kernel) (by decide +kernel)
theorem kw_1284 : (Cond.code yX4_secondsOf cX4_secondsOf 1 (some .int)) ∈ mW := mW_at 1284 (by decide +kernel) (by decide +kernel)
theorem kw_1282 : (Cond.methodLink RX4 188 yX4_secondsOf) ∈ mW := mW_at 1282 (by decide +kernel) (by decide +kernel)
theorem kw_1283 : (Cond.static yX4_secondsOf) ∈ mW := mW_at 1283 (by decide +kernel) (by decide +kernel)
theorem kw_1288 : (Cond.code yX4_set cX4_set 6 (some .int)) ∈ mW := mW_at 1288 (by decide +kernel) (by decide +kernel)
theorem kw_1285 : (Cond.methodLink RL 197 yX4_set) ∈ mW := mW_at 1285 (by decide +kernel) (by decide +kernel)
theorem kw_1286 : (Cond.instanceMethod yX4_set) ∈ mW := mW_at 1286 (by decide +kernel) (by decide +kernel)
theorem kw_1287 : (Cond.selects RX4 yX4_set yX4_set) ∈ mW := mW_at 1287 (by decide +kernel) (by decide +kernel)
theorem kw_1289 : (Cond.constantLong RX4 191 (23)) ∈ mW := mW_at 1289 (by decide +kernel) (by decide +kernel)
theorem kw_1293 : (Cond.code yX4_anew cX4_anew 5 (some .int)) ∈ mW := mW_at 1293 (by decide +kernel) (by decide +kernel)
theorem kw_1290 : (Cond.methodLink RL 201 yX4_anew) ∈ mW := mW_at 1290 (by decide +kernel) (by decide +kernel)
theorem kw_1291 : (Cond.instanceMethod yX4_anew) ∈ mW := mW_at 1291 (by decide +kernel) (by decide +kernel)
theorem kw_1292 : (Cond.selects RX4 yX4_anew yX4_anew) ∈ mW := mW_at 1292 (by decide +kernel) (by decide +kernel)
theorem kw_1297 : (Cond.code yX4_copy cX4_copy 3 (some .int)) ∈ mW := mW_at 1297 (by decide +kernel) (by decide +kernel)
theorem kw_1294 : (Cond.methodLink RL 204 yX4_copy) ∈ mW := mW_at 1294 (by decide +kernel) (by decide +kernel)
theorem kw_1295 : (Cond.instanceMethod yX4_copy) ∈ mW := mW_at 1295 (by decide +kernel) (by decide +kernel)
theorem kw_1296 : (Cond.selects RX4 yX4_copy yX4_copy) ∈ mW := mW_at 1296 (by decide +kernel) (by decide +kernel)
theorem kw_1301 : (Cond.code yX4_ofDate cX4_ofDate 3 (some .int)) ∈ mW := mW_at 1301 (by decide +kernel) (by decide +kernel)
theorem kw_1298 : (Cond.methodLink RL 207 yX4_ofDate) ∈ mW := mW_at 1298 (by decide +kernel) (by decide +kernel)
theorem kw_1299 : (Cond.instanceMethod yX4_ofDate) ∈ mW := mW_at 1299 (by decide +kernel) (by decide +kernel)
theorem kw_1300 : (Cond.selects RX4 yX4_ofDate yX4_ofDate) ∈ mW := mW_at 1300 (by decide +kernel) (by decide +kernel)
theorem kw_1305 : (Cond.code yX4_told cX4_told 4 (some .int)) ∈ mW := mW_at 1305 (by decide +kernel) (by decide +kernel)
theorem kw_1302 : (Cond.methodLink RX4 193 yX4_told) ∈ mW := mW_at 1302 (by decide +kernel) (by decide +kernel)
theorem kw_1304 : (Cond.instanceMethod yX4_told) ∈ mW := mW_at 1304 (by decide +kernel) (by decide +kernel)
theorem kw_32 : (Cond.selects RX4 yX4_told yX4_told) ∈ mW := mW_at 32 (by decide +kernel) (by decide +kernel)
theorem kw_1309 : (Cond.code yX4_orderDate cX4_orderDate 3 (some .int)) ∈ mW := mW_at 1309 (by decide +kernel) (by decide +kernel)
theorem kw_1306 : (Cond.methodLink RL 210 yX4_orderDate) ∈ mW := mW_at 1306 (by decide +kernel) (by decide +kernel)
theorem kw_1307 : (Cond.instanceMethod yX4_orderDate) ∈ mW := mW_at 1307 (by decide +kernel) (by decide +kernel)
theorem kw_1308 : (Cond.selects RX4 yX4_orderDate yX4_orderDate) ∈ mW := mW_at 1308 (by decide +kernel) (by decide +kernel)
theorem kw_1313 : (Cond.code yX4_ordered cX4_ordered 3 (some .int)) ∈ mW := mW_at 1313 (by decide +kernel) (by decide +kernel)
theorem kw_1310 : (Cond.methodLink RX4 196 yX4_ordered) ∈ mW := mW_at 1310 (by decide +kernel) (by decide +kernel)
theorem kw_1312 : (Cond.instanceMethod yX4_ordered) ∈ mW := mW_at 1312 (by decide +kernel) (by decide +kernel)
theorem kw_33 : (Cond.selects RX4 yX4_ordered yX4_ordered) ∈ mW := mW_at 33 (by decide +kernel) (by decide +kernel)
theorem kw_1317 : (Cond.code yX4_isDate cX4_isDate 4 (some .boolean)) ∈ mW := mW_at 1317 (by decide +kernel) (by decide +kernel)
theorem kw_1314 : (Cond.methodLink RL 213 yX4_isDate) ∈ mW := mW_at 1314 (by decide +kernel) (by decide +kernel)
theorem kw_1315 : (Cond.instanceMethod yX4_isDate) ∈ mW := mW_at 1315 (by decide +kernel) (by decide +kernel)
theorem kw_1316 : (Cond.selects RX4 yX4_isDate yX4_isDate) ∈ mW := mW_at 1316 (by decide +kernel) (by decide +kernel)
theorem kw_1321 : (Cond.code yX4_is cX4_is 4 (some .boolean)) ∈ mW := mW_at 1321 (by decide +kernel) (by decide +kernel)
theorem kw_1318 : (Cond.methodLink RX4 199 yX4_is) ∈ mW := mW_at 1318 (by decide +kernel) (by decide +kernel)
theorem kw_1320 : (Cond.instanceMethod yX4_is) ∈ mW := mW_at 1320 (by decide +kernel) (by decide +kernel)
theorem kw_34 : (Cond.selects RX4 yX4_is yX4_is) ∈ mW := mW_at 34 (by decide +kernel) (by decide +kernel)
theorem kw_1325 : (Cond.code yX4_clock cX4_clock 5 (some .int)) ∈ mW := mW_at 1325 (by decide +kernel) (by decide +kernel)
theorem kw_1322 : (Cond.methodLink RL 216 yX4_clock) ∈ mW := mW_at 1322 (by decide +kernel) (by decide +kernel)
theorem kw_1323 : (Cond.instanceMethod yX4_clock) ∈ mW := mW_at 1323 (by decide +kernel) (by decide +kernel)
theorem kw_1324 : (Cond.selects RX4 yX4_clock yX4_clock) ∈ mW := mW_at 1324 (by decide +kernel) (by decide +kernel)
theorem kw_1328 : (Cond.code yX4_isNoClock cX4_isNoClock 1 (some .boolean)) ∈ mW := mW_at 1328 (by decide +kernel) (by decide +kernel)
theorem kw_1326 : (Cond.methodLink RX4 205 yX4_isNoClock) ∈ mW := mW_at 1326 (by decide +kernel) (by decide +kernel)
theorem kw_1327 : (Cond.static yX4_isNoClock) ∈ mW := mW_at 1327 (by decide +kernel) (by decide +kernel)
theorem kw_1332 : (Cond.code yX4_turn cX4_turn 6 (some .int)) ∈ mW := mW_at 1332 (by decide +kernel) (by decide +kernel)
theorem kw_1329 : (Cond.methodLink RX4 208 yX4_turn) ∈ mW := mW_at 1329 (by decide +kernel) (by decide +kernel)
theorem kw_1331 : (Cond.instanceMethod yX4_turn) ∈ mW := mW_at 1331 (by decide +kernel) (by decide +kernel)
theorem kw_35 : (Cond.selects RX4 yX4_turn yX4_turn) ∈ mW := mW_at 35 (by decide +kernel) (by decide +kernel)
theorem kw_1336 : (Cond.code yX4_ofSecond cX4_ofSecond 2 (some .int)) ∈ mW := mW_at 1336 (by decide +kernel) (by decide +kernel)
theorem kw_1333 : (Cond.methodLink RX4 202 yX4_ofSecond) ∈ mW := mW_at 1333 (by decide +kernel) (by decide +kernel)
theorem kw_1335 : (Cond.instanceMethod yX4_ofSecond) ∈ mW := mW_at 1335 (by decide +kernel) (by decide +kernel)
theorem kw_36 : (Cond.selects RX4 yX4_ofSecond yX4_ofSecond) ∈ mW := mW_at 36 (by decide +kernel) (by decide +kernel)
theorem kw_1340 : (Cond.code yX4_clockOf cX4_clockOf 3 (some .int)) ∈ mW := mW_at 1340 (by decide +kernel) (by decide +kernel)
theorem kw_1337 : (Cond.methodLink RL 219 yX4_clockOf) ∈ mW := mW_at 1337 (by decide +kernel) (by decide +kernel)
theorem kw_1338 : (Cond.instanceMethod yX4_clockOf) ∈ mW := mW_at 1338 (by decide +kernel) (by decide +kernel)
theorem kw_1339 : (Cond.selects RX4 yX4_clockOf yX4_clockOf) ∈ mW := mW_at 1339 (by decide +kernel) (by decide +kernel)
theorem kw_1344 : (Cond.code yX4_copyClock cX4_copyClock 3 (some .int)) ∈ mW := mW_at 1344 (by decide +kernel) (by decide +kernel)
theorem kw_1341 : (Cond.methodLink RL 231 yX4_copyClock) ∈ mW := mW_at 1341 (by decide +kernel) (by decide +kernel)
theorem kw_1342 : (Cond.instanceMethod yX4_copyClock) ∈ mW := mW_at 1342 (by decide +kernel) (by decide +kernel)
theorem kw_1343 : (Cond.selects RX4 yX4_copyClock yX4_copyClock) ∈ mW := mW_at 1343 (by decide +kernel) (by decide +kernel)
theorem kw_1348 : (Cond.code yX4_strike cX4_strike 3 (some .int)) ∈ mW := mW_at 1348 (by decide +kernel) (by decide +kernel)
theorem kw_1345 : (Cond.methodLink RL 222 yX4_strike) ∈ mW := mW_at 1345 (by decide +kernel) (by decide +kernel)
theorem kw_1346 : (Cond.instanceMethod yX4_strike) ∈ mW := mW_at 1346 (by decide +kernel) (by decide +kernel)
theorem kw_1347 : (Cond.selects RX4 yX4_strike yX4_strike) ∈ mW := mW_at 1347 (by decide +kernel) (by decide +kernel)
theorem kw_1352 : (Cond.code yX4_moveClock cX4_moveClock 9 (some .int)) ∈ mW := mW_at 1352 (by decide +kernel) (by decide +kernel)
theorem kw_1349 : (Cond.methodLink RL 225 yX4_moveClock) ∈ mW := mW_at 1349 (by decide +kernel) (by decide +kernel)
theorem kw_1350 : (Cond.instanceMethod yX4_moveClock) ∈ mW := mW_at 1350 (by decide +kernel) (by decide +kernel)
theorem kw_1351 : (Cond.selects RX4 yX4_moveClock yX4_moveClock) ∈ mW := mW_at 1351 (by decide +kernel) (by decide +kernel)
theorem kw_1353 : (Cond.constantLong RX4 212 (4)) ∈ mW := mW_at 1353 (by decide +kernel) (by decide +kernel)
theorem kw_1357 : (Cond.code yX4_anewClock cX4_anewClock 5 (some .int)) ∈ mW := mW_at 1357 (by decide +kernel) (by decide +kernel)
theorem kw_1354 : (Cond.methodLink RL 228 yX4_anewClock) ∈ mW := mW_at 1354 (by decide +kernel) (by decide +kernel)
theorem kw_1355 : (Cond.instanceMethod yX4_anewClock) ∈ mW := mW_at 1355 (by decide +kernel) (by decide +kernel)
theorem kw_1356 : (Cond.selects RX4 yX4_anewClock yX4_anewClock) ∈ mW := mW_at 1356 (by decide +kernel) (by decide +kernel)
theorem kw_1361 : (Cond.code yX4_ofClock cX4_ofClock 3 (some .int)) ∈ mW := mW_at 1361 (by decide +kernel) (by decide +kernel)
theorem kw_1358 : (Cond.methodLink RL 234 yX4_ofClock) ∈ mW := mW_at 1358 (by decide +kernel) (by decide +kernel)
theorem kw_1359 : (Cond.instanceMethod yX4_ofClock) ∈ mW := mW_at 1359 (by decide +kernel) (by decide +kernel)
theorem kw_1360 : (Cond.selects RX4 yX4_ofClock yX4_ofClock) ∈ mW := mW_at 1360 (by decide +kernel) (by decide +kernel)
theorem kw_1362 : (Cond.constantLong RX4 214 (5)) ∈ mW := mW_at 1362 (by decide +kernel) (by decide +kernel)
theorem kw_1366 : (Cond.code yX4_clockTold cX4_clockTold 3 (some .int)) ∈ mW := mW_at 1366 (by decide +kernel) (by decide +kernel)
theorem kw_1363 : (Cond.methodLink RX4 216 yX4_clockTold) ∈ mW := mW_at 1363 (by decide +kernel) (by decide +kernel)
theorem kw_1365 : (Cond.instanceMethod yX4_clockTold) ∈ mW := mW_at 1365 (by decide +kernel) (by decide +kernel)
theorem kw_37 : (Cond.selects RX4 yX4_clockTold yX4_clockTold) ∈ mW := mW_at 37 (by decide +kernel) (by decide +kernel)
theorem kw_1370 : (Cond.code yX4_orderClock cX4_orderClock 3 (some .int)) ∈ mW := mW_at 1370 (by decide +kernel) (by decide +kernel)
theorem kw_1367 : (Cond.methodLink RL 237 yX4_orderClock) ∈ mW := mW_at 1367 (by decide +kernel) (by decide +kernel)
theorem kw_1368 : (Cond.instanceMethod yX4_orderClock) ∈ mW := mW_at 1368 (by decide +kernel) (by decide +kernel)
theorem kw_1369 : (Cond.selects RX4 yX4_orderClock yX4_orderClock) ∈ mW := mW_at 1369 (by decide +kernel) (by decide +kernel)
theorem kw_1374 : (Cond.code yX4_isClock cX4_isClock 4 (some .boolean)) ∈ mW := mW_at 1374 (by decide +kernel) (by decide +kernel)
theorem kw_1371 : (Cond.methodLink RL 240 yX4_isClock) ∈ mW := mW_at 1371 (by decide +kernel) (by decide +kernel)
theorem kw_1372 : (Cond.instanceMethod yX4_isClock) ∈ mW := mW_at 1372 (by decide +kernel) (by decide +kernel)
theorem kw_1373 : (Cond.selects RX4 yX4_isClock yX4_isClock) ∈ mW := mW_at 1373 (by decide +kernel) (by decide +kernel)
theorem kw_1378 : (Cond.code yX4_knock cX4_knock 1 (some .int)) ∈ mW := mW_at 1378 (by decide +kernel) (by decide +kernel)
theorem kw_1375 : (Cond.methodLink RL 244 yX4_knock) ∈ mW := mW_at 1375 (by decide +kernel) (by decide +kernel)
theorem kw_1376 : (Cond.instanceMethod yX4_knock) ∈ mW := mW_at 1376 (by decide +kernel) (by decide +kernel)
theorem kw_1377 : (Cond.selects RX4 yX4_knock yX4_knock) ∈ mW := mW_at 1377 (by decide +kernel) (by decide +kernel)
theorem kw_1382 : (Cond.code yX4_house cX4_house 2 (some .int)) ∈ mW := mW_at 1382 (by decide +kernel) (by decide +kernel)
theorem kw_1379 : (Cond.methodLink RL 247 yX4_house) ∈ mW := mW_at 1379 (by decide +kernel) (by decide +kernel)
theorem kw_1380 : (Cond.instanceMethod yX4_house) ∈ mW := mW_at 1380 (by decide +kernel) (by decide +kernel)
theorem kw_1381 : (Cond.selects RX4 yX4_house yX4_house) ∈ mW := mW_at 1381 (by decide +kernel) (by decide +kernel)
theorem kw_1386 : (Cond.code yX4_houseTold cX4_houseTold 5 (some .int)) ∈ mW := mW_at 1386 (by decide +kernel) (by decide +kernel)
theorem kw_1383 : (Cond.methodLink RX4 222 yX4_houseTold) ∈ mW := mW_at 1383 (by decide +kernel) (by decide +kernel)
theorem kw_1385 : (Cond.instanceMethod yX4_houseTold) ∈ mW := mW_at 1385 (by decide +kernel) (by decide +kernel)
theorem kw_38 : (Cond.selects RX4 yX4_houseTold yX4_houseTold) ∈ mW := mW_at 38 (by decide +kernel) (by decide +kernel)
theorem kw_1390 : (Cond.code yX4_isSound cX4_isSound 1 (some .boolean)) ∈ mW := mW_at 1390 (by decide +kernel) (by decide +kernel)
theorem kw_1387 : (Cond.methodLink RL 252 yX4_isSound) ∈ mW := mW_at 1387 (by decide +kernel) (by decide +kernel)
theorem kw_1388 : (Cond.instanceMethod yX4_isSound) ∈ mW := mW_at 1388 (by decide +kernel) (by decide +kernel)
theorem kw_1389 : (Cond.selects RX4 yX4_isSound yX4_isSound) ∈ mW := mW_at 1389 (by decide +kernel) (by decide +kernel)
theorem kw_1394 : (Cond.code yX4_digest cX4_digest 8 (some .long)) ∈ mW := mW_at 1394 (by decide +kernel) (by decide +kernel)
theorem kw_1391 : (Cond.methodLink RL 257 yX4_digest) ∈ mW := mW_at 1391 (by decide +kernel) (by decide +kernel)
theorem kw_1392 : (Cond.instanceMethod yX4_digest) ∈ mW := mW_at 1392 (by decide +kernel) (by decide +kernel)
theorem kw_1393 : (Cond.selects RX4 yX4_digest yX4_digest) ∈ mW := mW_at 1393 (by decide +kernel) (by decide +kernel)
theorem kw_1395 : (Cond.constantLong RX4 225 (6199)) ∈ mW := mW_at 1395 (by decide +kernel) (by decide +kernel)
theorem kw_1396 : (Cond.constantLong RX4 227 (31)) ∈ mW := mW_at 1396 (by decide +kernel) (by decide +kernel)
theorem kt_L : (Cond.initialized RL) ∈ mW := kw_39
theorem kt_X2 : (Cond.initialized RX2) ∈ mW := kw_40
theorem kt_X1 : (Cond.initialized RX1) ∈ mW := kw_41
theorem kt_X4 : (Cond.initialized RX4) ∈ mW := kw_42
theorem kt_X3 : (Cond.initialized RX3) ∈ mW := kw_43
theorem kt_java_lang_Throwable : (Cond.initialized "java/lang/Throwable") ∈ mW := kw_44
theorem kt_java_lang_Exception : (Cond.initialized "java/lang/Exception") ∈ mW := kw_45
theorem kt_java_lang_RuntimeException : (Cond.initialized "java/lang/RuntimeException") ∈ mW := kw_46
theorem kt_java_lang_IndexOutOfBoundsException : (Cond.initialized "java/lang/IndexOutOfBoundsException") ∈ mW := kw_47
theorem kt_java_lang_IllegalArgumentException : (Cond.initialized "java/lang/IllegalArgumentException") ∈ mW := kw_48
theorem kt_J9 : (Cond.initialized RJ9) ∈ mW := kw_49
theorem kt_java_lang_AbstractStringBuilder : (Cond.initialized "java/lang/AbstractStringBuilder") ∈ mW := kw_50
theorem kt_java_lang_StringBuilder : (Cond.initialized "java/lang/StringBuilder") ∈ mW := kw_51
theorem kt_java_lang_String : (Cond.initialized "java/lang/String") ∈ mW := kw_52
theorem kt_java_lang_StringUTF16 : (Cond.initialized "java/lang/StringUTF16") ∈ mW := kw_53
theorem kt_jdk_internal_util_ArraysSupport : (Cond.initialized "jdk/internal/util/ArraysSupport") ∈ mW := kw_54
theorem kt_java_util_Arrays : (Cond.initialized "java/util/Arrays") ∈ mW := kw_55
theorem kt_java_lang_System : (Cond.initialized "java/lang/System") ∈ mW := kw_56
theorem kt_java_lang_StringLatin1 : (Cond.initialized "java/lang/StringLatin1") ∈ mW := kw_57
theorem kt_jdk_internal_util_Preconditions : (Cond.initialized "jdk/internal/util/Preconditions") ∈ mW := kw_58
theorem kt_java_lang_Character : (Cond.initialized "java/lang/Character") ∈ mW := kw_59
theorem kt_java_lang_Integer : (Cond.initialized "java/lang/Integer") ∈ mW := kw_60
theorem kt_java_lang_Long : (Cond.initialized "java/lang/Long") ∈ mW := kw_61
theorem kt_X0 : (Cond.initialized RX0) ∈ mW := kw_62
theorem kl_L_8 : (Cond.classLink RL 8 RX2) ∈ mW := kw_63
theorem ki_X2 : (Cond.instantiable RX2 8) ∈ mW := kw_64
theorem kl_X2_17 : (Cond.classLink RX2 17 RX1) ∈ mW := kw_71
theorem ki_X1 : (Cond.instantiable RX1 3) ∈ mW := kw_73
theorem kf_X1_9 : mFd RX1 9 2 0 RX1 TX1 3 .long := ⟨kinX1, ⟨_, tyX1_ok⟩, nmX1, rfl, by decide, kw_78, by decide +kernel⟩
theorem kg_X2_146 : mFn RX2 RX2 146 2 0 RX1 TX1 3 .long := ⟨kinX1, ⟨_, tyX1_ok⟩, nmX1, rfl, by decide, kw_79, by decide +kernel⟩
theorem kf_X1_15 : mFd RX1 15 2 1 RX1 TX1 3 .int := ⟨kinX1, ⟨_, tyX1_ok⟩, nmX1, rfl, by decide, kw_80, by decide +kernel⟩
theorem kg_X2_172 : mFn RX2 RX2 172 2 1 RX1 TX1 3 .int := ⟨kinX1, ⟨_, tyX1_ok⟩, nmX1, rfl, by decide, kw_81, by decide +kernel⟩
theorem kf_X1_19 : mFd RX1 19 2 2 RX1 TX1 3 .int := ⟨kinX1, ⟨_, tyX1_ok⟩, nmX1, rfl, by decide, kw_82, by decide +kernel⟩
theorem kg_X2_158 : mFn RX2 RX2 158 2 2 RX1 TX1 3 .int := ⟨kinX1, ⟨_, tyX1_ok⟩, nmX1, rfl, by decide, kw_83, by decide +kernel⟩
theorem kf_X2_9 : mFd RX2 9 3 0 RX2 TX2 8 (.array .int) := ⟨kinX2, ⟨_, tyX2_ok⟩, nmX2, rfl, by decide, kw_93, by decide +kernel⟩
theorem kf_X2_13 : mFd RX2 13 3 1 RX2 TX2 8 (.array .long) := ⟨kinX2, ⟨_, tyX2_ok⟩, nmX2, rfl, by decide, kw_94, by decide +kernel⟩
theorem kf_X2_20 : mFd RX2 20 3 2 RX2 TX2 8 (.array (.object "Momentdesk$Local")) := ⟨kinX2, ⟨_, tyX2_ok⟩, nmX2, rfl, by decide, kw_95, by decide +kernel⟩
theorem kf_X2_24 : mFd RX2 24 3 3 RX2 TX2 8 (.array (.object "Momentdesk$Local")) := ⟨kinX2, ⟨_, tyX2_ok⟩, nmX2, rfl, by decide, kw_96, by decide +kernel⟩
theorem kf_X2_27 : mFd RX2 27 3 4 RX2 TX2 8 (.object "Momentdesk$Local") := ⟨kinX2, ⟨_, tyX2_ok⟩, nmX2, rfl, by decide, kw_97, by decide +kernel⟩
theorem kf_X2_31 : mFd RX2 31 3 5 RX2 TX2 8 (.object "Momentdesk$Local") := ⟨kinX2, ⟨_, tyX2_ok⟩, nmX2, rfl, by decide, kw_98, by decide +kernel⟩
theorem kf_X2_196 : mFd RX2 196 3 6 RX2 TX2 8 .int := ⟨kinX2, ⟨_, tyX2_ok⟩, nmX2, rfl, by decide, kw_99, by decide +kernel⟩
theorem kf_X2_199 : mFd RX2 199 3 7 RX2 TX2 8 .int := ⟨kinX2, ⟨_, tyX2_ok⟩, nmX2, rfl, by decide, kw_100, by decide +kernel⟩
theorem kv_L_241 : mWV RL 241 yX2_knock cX2_knock 1 (some .int) 0 := ⟨kw_118, kw_119, kw_120, kw_40, kw_121, ⟨by decide +kernel, by decide +kernel⟩, by decide +kernel⟩
theorem kv_L_248 : mWV RL 248 yX2_isSound cX2_isSound 1 (some .boolean) 0 := ⟨kw_122, kw_123, kw_124, kw_40, kw_125, ⟨by decide +kernel, by decide +kernel⟩, by decide +kernel⟩
theorem kv_X2_208 : mWV RX2 208 yX2_areMomentsSound cX2_areMomentsSound 5 (some .boolean) 0 := ⟨kw_126, kw_128, kw_0, kw_40, kw_129, ⟨by decide +kernel, by decide +kernel⟩, by decide +kernel⟩
theorem ks_X2_96 : mWS RX2 96 yX2_secondOf cX2_secondOf 2 (some .long) 1 := ⟨kw_130, kw_131, kw_40, kw_132, ⟨by decide +kernel, by decide +kernel⟩, by decide +kernel⟩
theorem kc_X2_72 : (Cond.constantLong RX2 72 (1000000000)) ∈ mW := kw_133
theorem ks_X2_100 : mWS RX2 100 yJ9_floorDiv_f86c9 cJ9_floorDiv_f86c9 6 (some .long) 2 := ⟨kw_134, kw_135, kw_49, kw_136, ⟨by decide +kernel, by decide +kernel⟩, by decide +kernel⟩
theorem ks_X2_92 : mWS RX2 92 yX2_nanoOf cX2_nanoOf 2 (some .int) 1 := ⟨kw_137, kw_138, kw_40, kw_139, ⟨by decide +kernel, by decide +kernel⟩, by decide +kernel⟩
theorem ks_X2_277 : mWS RX2 277 yJ9_floorMod_f86c9 cJ9_floorMod_f86c9 6 (some .long) 2 := ⟨kw_140, kw_141, kw_49, kw_142, ⟨by decide +kernel, by decide +kernel⟩, by decide +kernel⟩
theorem kv_X2_270 : mWV RX2 270 yX1_tell cX1_tell 5 none 3 := ⟨kw_143, kw_144, kw_145, kw_41, kw_146, ⟨by decide +kernel, by decide +kernel⟩, by decide +kernel⟩
theorem ks_X2_88 : mWS RX2 88 yX2_numberOf cX2_numberOf 1 (some .long) 1 := ⟨kw_147, kw_148, kw_40, kw_149, ⟨by decide +kernel, by decide +kernel⟩, by decide +kernel⟩
theorem kv_X2_169 : mWV RX2 169 yX1_momentSecond cX1_momentSecond 1 (some .long) 0 := ⟨kw_150, kw_151, kw_152, kw_41, kw_153, ⟨by decide +kernel, by decide +kernel⟩, by decide +kernel⟩
theorem kv_X2_212 : mWV RX2 212 yX2_areDatesToldAnewSound cX2_areDatesToldAnewSound 3 (some .boolean) 0 := ⟨kw_154, kw_156, kw_1, kw_40, kw_157, ⟨by decide +kernel, by decide +kernel⟩, by decide +kernel⟩
theorem ks_X2_84 : mWS RX2 84 yX2_at cX2_at 2 (some (.object "Momentdesk$Local")) 2 := ⟨kw_158, kw_159, kw_40, kw_160, ⟨by decide +kernel, by decide +kernel⟩, by decide +kernel⟩
theorem kl_X2_250 : (Cond.classLink RX2 250 "java/lang/IndexOutOfBoundsException") ∈ mW := kw_161
theorem kv_X2_366 : mWV RX2 366 yX2_isToldAnewSound cX2_isToldAnewSound 6 (some .boolean) 2 := ⟨kw_228, kw_230, kw_3, kw_40, kw_231, ⟨by decide +kernel, by decide +kernel⟩, by decide +kernel⟩
theorem kc_X2_266 : (Cond.constantLong RX2 266 (-1893456000)) ∈ mW := kw_232
theorem kc_X2_268 : (Cond.constantLong RX2 268 (1924991999)) ∈ mW := kw_233
theorem ks_X2_48 : mWS RX2 48 yX2_isWithin cX2_isWithin 6 (some .boolean) 3 := ⟨kw_234, kw_235, kw_40, kw_236, ⟨by decide +kernel, by decide +kernel⟩, by decide +kernel⟩
theorem kv_X2_360 : mWV RX2 360 yX1_isAlike cX1_isAlike 2 (some .boolean) 1 := ⟨kw_237, kw_238, kw_239, kw_41, kw_240, ⟨by decide +kernel, by decide +kernel⟩, by decide +kernel⟩
theorem kv_X1_55 : mWV RX1 55 yX1_momentSecond cX1_momentSecond 1 (some .long) 0 := ⟨kw_241, kw_151, kw_152, kw_41, kw_153, ⟨by decide +kernel, by decide +kernel⟩, by decide +kernel⟩
theorem kv_X2_363 : mWV RX2 363 yX1_isSame cX1_isSame 2 (some .boolean) 1 := ⟨kw_242, kw_243, kw_244, kw_41, kw_245, ⟨by decide +kernel, by decide +kernel⟩, by decide +kernel⟩
theorem kv_X2_215 : mWV RX2 215 yX2_arePairsSound cX2_arePairsSound 3 (some .boolean) 0 := ⟨kw_246, kw_248, kw_4, kw_40, kw_249, ⟨by decide +kernel, by decide +kernel⟩, by decide +kernel⟩
theorem ks_X2_370 : mWS RX2 370 yX2_isPairSound cX2_isPairSound 4 (some .boolean) 2 := ⟨kw_250, kw_251, kw_40, kw_252, ⟨by decide +kernel, by decide +kernel⟩, by decide +kernel⟩
theorem kv_X2_356 : mWV RX2 356 yX1_isAhead cX1_isAhead 2 (some .boolean) 1 := ⟨kw_253, kw_254, kw_255, kw_41, kw_256, ⟨by decide +kernel, by decide +kernel⟩, by decide +kernel⟩
theorem kv_X1_51 : mWV RX1 51 yX1_momentOrder cX1_momentOrder 3 (some .int) 1 := ⟨kw_257, kw_258, kw_259, kw_41, kw_260, ⟨by decide +kernel, by decide +kernel⟩, by decide +kernel⟩
theorem kn_X1_59 : mWN RX1 RX2 59 yX2_compared cX2_compared 4 (some .int) 2 := ⟨kw_261, kw_262, kw_40, kw_263, ⟨by decide +kernel, by decide +kernel⟩, by decide +kernel⟩
theorem kv_X2_179 : mWV RX2 179 yX1_orderTo cX1_orderTo 3 (some .int) 1 := ⟨kw_264, kw_265, kw_266, kw_41, kw_267, ⟨by decide +kernel, by decide +kernel⟩, by decide +kernel⟩
theorem kv_X2_218 : mWV RX2 218 yX2_areStrikesSound cX2_areStrikesSound 3 (some .boolean) 0 := ⟨kw_268, kw_270, kw_5, kw_40, kw_271, ⟨by decide +kernel, by decide +kernel⟩, by decide +kernel⟩
theorem kv_X2_320 : mWV RX2 320 yX1_secondOfDay cX1_secondOfDay 1 (some .int) 0 := ⟨kw_272, kw_273, kw_274, kw_41, kw_275, ⟨by decide +kernel, by decide +kernel⟩, by decide +kernel⟩
theorem kc_X1_22 : (Cond.constantLong RX1 22 (86400)) ∈ mW := kw_276
theorem ks_X1_45 : mWS RX1 45 yJ9_floorMod_f86c9 cJ9_floorMod_f86c9 6 (some .long) 2 := ⟨kw_277, kw_141, kw_49, kw_142, ⟨by decide +kernel, by decide +kernel⟩, by decide +kernel⟩
theorem kv_X2_190 : mWV RX2 190 yX1_beginOfDay cX1_beginOfDay 1 (some .long) 0 := ⟨kw_278, kw_279, kw_280, kw_41, kw_281, ⟨by decide +kernel, by decide +kernel⟩, by decide +kernel⟩
theorem kv_X1_30 : mWV RX1 30 yX1_day cX1_day 1 (some .int) 0 := ⟨kw_282, kw_283, kw_284, kw_41, kw_285, ⟨by decide +kernel, by decide +kernel⟩, by decide +kernel⟩
theorem ks_X1_24 : mWS RX1 24 yJ9_floorDiv_f86c9 cJ9_floorDiv_f86c9 6 (some .long) 2 := ⟨kw_286, kw_135, kw_49, kw_136, ⟨by decide +kernel, by decide +kernel⟩, by decide +kernel⟩
theorem kv_L_253 : mWV RL 253 yX2_digest cX2_digest 3 (some .long) 0 := ⟨kw_287, kw_288, kw_289, kw_40, kw_290, ⟨by decide +kernel, by decide +kernel⟩, by decide +kernel⟩
theorem kc_X2_221 : (Cond.constantLong RX2 221 (6199)) ∈ mW := kw_291
theorem kv_X2_223 : mWV RX2 223 yX2_withOffsets cX2_withOffsets 6 (some .long) 1 := ⟨kw_292, kw_294, kw_6, kw_40, kw_295, ⟨by decide +kernel, by decide +kernel⟩, by decide +kernel⟩
theorem kv_X2_64 : mWV RX2 64 yX2_seconds cX2_seconds 2 (some .int) 1 := ⟨kw_296, kw_297, kw_298, kw_40, kw_299, ⟨by decide +kernel, by decide +kernel⟩, by decide +kernel⟩
theorem ks_X2_34 : mWS RX2 34 yX2_requireOne cX2_requireOne 2 none 2 := ⟨kw_300, kw_301, kw_40, kw_302, ⟨by decide +kernel, by decide +kernel⟩, by decide +kernel⟩
theorem ks_X2_247 : mWS RX2 247 yX2_added cX2_added 4 (some .long) 2 := ⟨kw_303, kw_304, kw_40, kw_305, ⟨by decide +kernel, by decide +kernel⟩, by decide +kernel⟩
theorem kc_X2_374 : (Cond.constantLong RX2 374 (31)) ∈ mW := kw_306
theorem kv_X2_226 : mWV RX2 226 yX2_withMoments cX2_withMoments 6 (some .long) 1 := ⟨kw_307, kw_309, kw_7, kw_40, kw_310, ⟨by decide +kernel, by decide +kernel⟩, by decide +kernel⟩
theorem kv_X2_376 : mWV RX2 376 yX2_ofMoment cX2_ofMoment 3 (some .int) 2 := ⟨kw_311, kw_312, kw_313, kw_40, kw_314, ⟨by decide +kernel, by decide +kernel⟩, by decide +kernel⟩
theorem kv_X2_229 : mWV RX2 229 yX2_withDates cX2_withDates 7 (some .long) 1 := ⟨kw_315, kw_317, kw_8, kw_40, kw_318, ⟨by decide +kernel, by decide +kernel⟩, by decide +kernel⟩
theorem ks_X2_175 : mWS RX2 175 yX2_datePart cX2_datePart 3 (some .int) 2 := ⟨kw_319, kw_320, kw_40, kw_321, ⟨by decide +kernel, by decide +kernel⟩, by decide +kernel⟩
theorem kv_X2_274 : mWV RX2 274 yX1_day cX1_day 1 (some .int) 0 := ⟨kw_322, kw_283, kw_284, kw_41, kw_285, ⟨by decide +kernel, by decide +kernel⟩, by decide +kernel⟩
theorem ks_X2_323 : mWS RX2 323 yX0_yearOf cX0_yearOf 2 (some .int) 1 := ⟨kw_323, kw_324, kw_62, kw_325, ⟨by decide +kernel, by decide +kernel⟩, by decide +kernel⟩
theorem ks_X0_26 : mWS RX0 26 yX0_firstDayOf cX0_firstDayOf 2 (some .int) 1 := ⟨kw_326, kw_327, kw_62, kw_328, ⟨by decide +kernel, by decide +kernel⟩, by decide +kernel⟩
theorem kc_X0_25 : (Cond.constant RX0 25 (719162)) ∈ mW := kw_329
theorem ks_X2_326 : mWS RX2 326 yX0_monthOf cX0_monthOf 4 (some .int) 1 := ⟨kw_330, kw_331, kw_62, kw_332, ⟨by decide +kernel, by decide +kernel⟩, by decide +kernel⟩
theorem ks_X0_33 : mWS RX0 33 yX0_yearOf cX0_yearOf 2 (some .int) 1 := ⟨kw_333, kw_324, kw_62, kw_325, ⟨by decide +kernel, by decide +kernel⟩, by decide +kernel⟩
theorem ks_X0_30 : mWS RX0 30 yX0_daysBeforeMonth cX0_daysBeforeMonth 3 (some .int) 2 := ⟨kw_334, kw_335, kw_62, kw_336, ⟨by decide +kernel, by decide +kernel⟩, by decide +kernel⟩
theorem ks_X0_9 : mWS RX0 9 yX0_isLeap cX0_isLeap 1 (some .boolean) 1 := ⟨kw_337, kw_338, kw_62, kw_339, ⟨by decide +kernel, by decide +kernel⟩, by decide +kernel⟩
theorem ks_X2_311 : mWS RX2 311 yX0_dayOfMonth cX0_dayOfMonth 1 (some .int) 1 := ⟨kw_340, kw_341, kw_62, kw_342, ⟨by decide +kernel, by decide +kernel⟩, by decide +kernel⟩
theorem ks_X0_36 : mWS RX0 36 yX0_dayOfYear cX0_dayOfYear 1 (some .int) 1 := ⟨kw_343, kw_344, kw_62, kw_345, ⟨by decide +kernel, by decide +kernel⟩, by decide +kernel⟩
theorem ks_X0_39 : mWS RX0 39 yX0_monthOf cX0_monthOf 4 (some .int) 1 := ⟨kw_346, kw_331, kw_62, kw_332, ⟨by decide +kernel, by decide +kernel⟩, by decide +kernel⟩
theorem ks_X2_350 : mWS RX2 350 yX0_dayOfYear cX0_dayOfYear 1 (some .int) 1 := ⟨kw_347, kw_344, kw_62, kw_345, ⟨by decide +kernel, by decide +kernel⟩, by decide +kernel⟩
theorem kv_X2_335 : mWV RX2 335 yX1_hour cX1_hour 1 (some .int) 0 := ⟨kw_348, kw_349, kw_350, kw_41, kw_351, ⟨by decide +kernel, by decide +kernel⟩, by decide +kernel⟩
theorem kv_X1_48 : mWV RX1 48 yX1_secondOfDay cX1_secondOfDay 1 (some .int) 0 := ⟨kw_352, kw_273, kw_274, kw_41, kw_275, ⟨by decide +kernel, by decide +kernel⟩, by decide +kernel⟩
theorem kv_X2_342 : mWV RX2 342 yX1_minute cX1_minute 1 (some .int) 0 := ⟨kw_353, kw_354, kw_355, kw_41, kw_356, ⟨by decide +kernel, by decide +kernel⟩, by decide +kernel⟩
theorem kv_X2_345 : mWV RX2 345 yX1_secondOfMinute cX1_secondOfMinute 1 (some .int) 0 := ⟨kw_357, kw_358, kw_359, kw_41, kw_360, ⟨by decide +kernel, by decide +kernel⟩, by decide +kernel⟩
theorem ks_X2_353 : mWS RX2 353 yX0_dayOfWeek cX0_dayOfWeek 1 (some .int) 1 := ⟨kw_361, kw_362, kw_62, kw_363, ⟨by decide +kernel, by decide +kernel⟩, by decide +kernel⟩
theorem ks_X0_42 : mWS RX0 42 yJ9_floorMod_7cf53 cJ9_floorMod_7cf53 3 (some .int) 2 := ⟨kw_364, kw_365, kw_49, kw_366, ⟨by decide +kernel, by decide +kernel⟩, by decide +kernel⟩
theorem kv_X2_232 : mWV RX2 232 yX2_withClocks cX2_withClocks 7 (some .long) 1 := ⟨kw_367, kw_369, kw_9, kw_40, kw_370, ⟨by decide +kernel, by decide +kernel⟩, by decide +kernel⟩
theorem ks_X2_193 : mWS RX2 193 yX2_clockPart cX2_clockPart 2 (some .int) 2 := ⟨kw_371, kw_372, kw_40, kw_373, ⟨by decide +kernel, by decide +kernel⟩, by decide +kernel⟩
theorem kv_X2_235 : mWV RX2 235 yX2_withDatePairs cX2_withDatePairs 7 (some .long) 1 := ⟨kw_374, kw_376, kw_10, kw_40, kw_377, ⟨by decide +kernel, by decide +kernel⟩, by decide +kernel⟩
theorem kv_X2_238 : mWV RX2 238 yX2_withClockPairs cX2_withClockPairs 7 (some .long) 1 := ⟨kw_378, kw_380, kw_11, kw_40, kw_381, ⟨by decide +kernel, by decide +kernel⟩, by decide +kernel⟩
theorem kv_X2_241 : mWV RX2 241 yX2_withHouse cX2_withHouse 6 (some .long) 1 := ⟨kw_382, kw_384, kw_12, kw_40, kw_385, ⟨by decide +kernel, by decide +kernel⟩, by decide +kernel⟩
theorem kv_X2_380 : mWV RX2 380 yX2_house cX2_house 2 (some .int) 1 := ⟨kw_386, kw_387, kw_388, kw_40, kw_389, ⟨by decide +kernel, by decide +kernel⟩, by decide +kernel⟩
theorem ks_X2_40 : mWS RX2 40 yX2_requireWithin cX2_requireWithin 3 none 3 := ⟨kw_390, kw_391, kw_40, kw_392, ⟨by decide +kernel, by decide +kernel⟩, by decide +kernel⟩
theorem kl_X2_257 : (Cond.classLink RX2 257 "java/lang/IllegalArgumentException") ∈ mW := kw_393
theorem kv_X2_202 : mWV RX2 202 yX2_firstDated cX2_firstDated 3 (some .int) 0 := ⟨kw_409, kw_411, kw_13, kw_40, kw_412, ⟨by decide +kernel, by decide +kernel⟩, by decide +kernel⟩
theorem kv_X2_205 : mWV RX2 205 yX2_firstMoment cX2_firstMoment 3 (some .int) 0 := ⟨kw_413, kw_415, kw_14, kw_40, kw_416, ⟨by decide +kernel, by decide +kernel⟩, by decide +kernel⟩
theorem kv_X2_244 : mWV RX2 244 yX2_isSound cX2_isSound 1 (some .boolean) 0 := ⟨kw_417, kw_123, kw_124, kw_40, kw_125, ⟨by decide +kernel, by decide +kernel⟩, by decide +kernel⟩
theorem kl_L_14 : (Cond.classLink RL 14 RX3) ∈ mW := kw_418
theorem ki_X3 : (Cond.instantiable RX3 2) ∈ mW := kw_419
theorem kg_L_13 : mFn RL RL 13 4 0 RX3 TX3 2 .long := ⟨kinX3, ⟨_, tyX3_ok⟩, nmX3, rfl, by decide, kw_424, by decide +kernel⟩
theorem kg_L_56 : mFn RL RL 56 4 1 RX3 TX3 2 (.object "java/lang/String") := ⟨kinX3, ⟨_, tyX3_ok⟩, nmX3, rfl, by decide, kw_425, by decide +kernel⟩
theorem kh_L_134 : mWH RL 134 yL_offset cL_offset 5 (some .int) [(0, 11, 14, 19), (0, 11, 18, 21)] 4 := ⟨kw_431, kw_432, kw_39, kw_433, ⟨by decide +kernel, by decide +kernel⟩, by decide +kernel⟩
theorem kl_L_19 : (Cond.classLink RL 19 "java/lang/IndexOutOfBoundsException") ∈ mW := kw_434
theorem kl_L_21 : (Cond.classLink RL 21 "java/lang/IllegalArgumentException") ∈ mW := kw_435
theorem kv_L_7 : mWV RL 7 yX2_offset cX2_offset 4 (some .int) 2 := ⟨kw_436, kw_437, kw_438, kw_40, kw_439, ⟨by decide +kernel, by decide +kernel⟩, by decide +kernel⟩
theorem kc_X2_38 : (Cond.constant RX2 38 (-64800)) ∈ mW := kw_440
theorem kc_X2_39 : (Cond.constant RX2 39 (64800)) ∈ mW := kw_441
theorem kh_L_144 : mWH RL 144 yL_offsetOf cL_offsetOf 7 (some .int) [(0, 15, 18, 19)] 6 := ⟨kw_442, kw_443, kw_39, kw_444, ⟨by decide +kernel, by decide +kernel⟩, by decide +kernel⟩
theorem kv_L_23 : mWV RL 23 yX2_offsetOf cX2_offsetOf 8 (some .int) 4 := ⟨kw_445, kw_446, kw_447, kw_40, kw_448, ⟨by decide +kernel, by decide +kernel⟩, by decide +kernel⟩
theorem kc_X2_44 : (Cond.constantLong RX2 44 (-18)) ∈ mW := kw_449
theorem kc_X2_46 : (Cond.constantLong RX2 46 (18)) ∈ mW := kw_450
theorem kc_X2_52 : (Cond.constantLong RX2 52 (-59)) ∈ mW := kw_451
theorem kc_X2_54 : (Cond.constantLong RX2 54 (59)) ∈ mW := kw_452
theorem kv_X2_56 : mWV RX2 56 yX2_refused cX2_refused 1 (some .int) 0 := ⟨kw_453, kw_455, kw_15, kw_40, kw_456, ⟨by decide +kernel, by decide +kernel⟩, by decide +kernel⟩
theorem kc_X2_60 : (Cond.constantLong RX2 60 (-64800)) ∈ mW := kw_457
theorem kc_X2_62 : (Cond.constantLong RX2 62 (64800)) ∈ mW := kw_458
theorem kh_L_148 : mWH RL 148 yL_seconds cL_seconds 4 (some .int) [(0, 10, 13, 19)] 3 := ⟨kw_459, kw_460, kw_39, kw_461, ⟨by decide +kernel, by decide +kernel⟩, by decide +kernel⟩
theorem kv_L_27 : mWV RL 27 yX2_seconds cX2_seconds 2 (some .int) 1 := ⟨kw_462, kw_297, kw_298, kw_40, kw_299, ⟨by decide +kernel, by decide +kernel⟩, by decide +kernel⟩
theorem kh_L_152 : mWH RL 152 yL_orderOffset cL_orderOffset 5 (some .int) [(0, 11, 14, 19)] 4 := ⟨kw_463, kw_464, kw_39, kw_465, ⟨by decide +kernel, by decide +kernel⟩, by decide +kernel⟩
theorem kv_L_31 : mWV RL 31 yX2_orderOffset cX2_orderOffset 3 (some .int) 2 := ⟨kw_466, kw_467, kw_468, kw_40, kw_469, ⟨by decide +kernel, by decide +kernel⟩, by decide +kernel⟩
theorem ks_X2_68 : mWS RX2 68 yX2_compared cX2_compared 4 (some .int) 2 := ⟨kw_470, kw_262, kw_40, kw_263, ⟨by decide +kernel, by decide +kernel⟩, by decide +kernel⟩
theorem kh_L_155 : mWH RL 155 yL_moment cL_moment 6 (some .int) [(0, 13, 16, 19)] 5 := ⟨kw_471, kw_472, kw_39, kw_473, ⟨by decide +kernel, by decide +kernel⟩, by decide +kernel⟩
theorem kv_L_34 : mWV RL 34 yX2_moment cX2_moment 4 (some .int) 3 := ⟨kw_474, kw_475, kw_476, kw_40, kw_477, ⟨by decide +kernel, by decide +kernel⟩, by decide +kernel⟩
theorem kv_X2_74 : mWV RX2 74 yX2_putNumber cX2_putNumber 4 (some .int) 2 := ⟨kw_478, kw_480, kw_16, kw_40, kw_481, ⟨by decide +kernel, by decide +kernel⟩, by decide +kernel⟩
theorem kc_X2_262 : (Cond.constantLong RX2 262 (-1800000000000000000)) ∈ mW := kw_482
theorem kc_X2_264 : (Cond.constantLong RX2 264 (1800000000999999999)) ∈ mW := kw_483
theorem kh_L_159 : mWH RL 159 yL_milli cL_milli 6 (some .int) [(0, 13, 16, 19)] 5 := ⟨kw_484, kw_485, kw_39, kw_486, ⟨by decide +kernel, by decide +kernel⟩, by decide +kernel⟩
theorem kv_L_38 : mWV RL 38 yX2_milli cX2_milli 4 (some .int) 3 := ⟨kw_487, kw_488, kw_489, kw_40, kw_490, ⟨by decide +kernel, by decide +kernel⟩, by decide +kernel⟩
theorem kc_X2_78 : (Cond.constantLong RX2 78 (1000000)) ∈ mW := kw_491
theorem kh_L_162 : mWH RL 162 yL_move cL_move 7 (some .int) [(0, 15, 18, 19), (0, 15, 22, 21)] 6 := ⟨kw_492, kw_493, kw_39, kw_494, ⟨by decide +kernel, by decide +kernel⟩, by decide +kernel⟩
theorem kv_L_41 : mWV RL 41 yX2_move cX2_move 7 (some .int) 4 := ⟨kw_495, kw_496, kw_497, kw_40, kw_498, ⟨by decide +kernel, by decide +kernel⟩, by decide +kernel⟩
theorem ks_X2_80 : mWS RX2 80 yX2_signed cX2_signed 2 (some .long) 2 := ⟨kw_499, kw_500, kw_40, kw_501, ⟨by decide +kernel, by decide +kernel⟩, by decide +kernel⟩
theorem kh_L_166 : mWH RL 166 yL_momentOf cL_momentOf 5 (some .int) [(0, 11, 14, 19)] 4 := ⟨kw_502, kw_503, kw_39, kw_504, ⟨by decide +kernel, by decide +kernel⟩, by decide +kernel⟩
theorem kv_L_45 : mWV RL 45 yX2_momentOf cX2_momentOf 3 (some .int) 2 := ⟨kw_505, kw_506, kw_507, kw_40, kw_508, ⟨by decide +kernel, by decide +kernel⟩, by decide +kernel⟩
theorem kh_L_169 : mWH RL 169 yL_ofMoment cL_ofMoment 5 (some .int) [(0, 11, 14, 19)] 4 := ⟨kw_509, kw_510, kw_39, kw_511, ⟨by decide +kernel, by decide +kernel⟩, by decide +kernel⟩
theorem kv_L_48 : mWV RL 48 yX2_ofMoment cX2_ofMoment 3 (some .int) 2 := ⟨kw_512, kw_312, kw_313, kw_40, kw_314, ⟨by decide +kernel, by decide +kernel⟩, by decide +kernel⟩
theorem kh_L_173 : mWH RL 173 yL_millis cL_millis 4 (some .int) [(0, 9, 12, 19)] 3 := ⟨kw_513, kw_514, kw_39, kw_515, ⟨by decide +kernel, by decide +kernel⟩, by decide +kernel⟩
theorem kv_L_52 : mWV RL 52 yX2_millis cX2_millis 2 (some (.object "java/lang/String")) 1 := ⟨kw_516, kw_517, kw_518, kw_40, kw_519, ⟨by decide +kernel, by decide +kernel⟩, by decide +kernel⟩
theorem ks_X2_106 : mWS RX2 106 yX2_textOf cX2_textOf 6 (some (.object "java/lang/String")) 1 := ⟨kw_520, kw_521, kw_40, kw_522, ⟨by decide +kernel, by decide +kernel⟩, by decide +kernel⟩
theorem kl_X2_280 : (Cond.classLink RX2 280 "java/lang/StringBuilder") ∈ mW := kw_523
theorem ks_X2_283 : mWS RX2 283 yJ9_abs_067f4 cJ9_abs_067f4 2 (some .long) 1 := ⟨kw_554, kw_555, kw_49, kw_556, ⟨by decide +kernel, by decide +kernel⟩, by decide +kernel⟩
theorem kc_X2_286 : (Cond.constantLong RX2 286 (48)) ∈ mW := kw_557
theorem kc_X2_288 : (Cond.constantLong RX2 288 (10)) ∈ mW := kw_558
theorem kh_L_176 : mWH RL 176 yL_orderMoment cL_orderMoment 5 (some .int) [(0, 11, 14, 19)] 4 := ⟨kw_823, kw_824, kw_39, kw_825, ⟨by decide +kernel, by decide +kernel⟩, by decide +kernel⟩
theorem kv_L_60 : mWV RL 60 yX2_orderMoment cX2_orderMoment 3 (some .int) 2 := ⟨kw_826, kw_827, kw_828, kw_40, kw_829, ⟨by decide +kernel, by decide +kernel⟩, by decide +kernel⟩
theorem kh_L_179 : mWH RL 179 yL_isMoment cL_isMoment 6 (some .int) [(0, 20, 23, 19), (0, 20, 27, 21)] 5 := ⟨kw_830, kw_831, kw_39, kw_832, ⟨by decide +kernel, by decide +kernel⟩, by decide +kernel⟩
theorem kv_L_63 : mWV RL 63 yX2_isMoment cX2_isMoment 5 (some .boolean) 3 := ⟨kw_833, kw_834, kw_835, kw_40, kw_836, ⟨by decide +kernel, by decide +kernel⟩, by decide +kernel⟩
theorem kv_X2_110 : mWV RX2 110 yX2_orderMoment cX2_orderMoment 3 (some .int) 2 := ⟨kw_837, kw_827, kw_828, kw_40, kw_829, ⟨by decide +kernel, by decide +kernel⟩, by decide +kernel⟩
theorem kh_L_182 : mWH RL 182 yL_copyMoment cL_copyMoment 5 (some .int) [(0, 11, 14, 19)] 4 := ⟨kw_838, kw_839, kw_39, kw_840, ⟨by decide +kernel, by decide +kernel⟩, by decide +kernel⟩
theorem kv_L_67 : mWV RL 67 yX2_copyMoment cX2_copyMoment 3 (some .int) 2 := ⟨kw_841, kw_842, kw_843, kw_40, kw_844, ⟨by decide +kernel, by decide +kernel⟩, by decide +kernel⟩
theorem kh_L_185 : mWH RL 185 yL_date cL_date 9 (some .int) [(0, 19, 22, 19), (0, 19, 26, 21)] 8 := ⟨kw_845, kw_846, kw_39, kw_847, ⟨by decide +kernel, by decide +kernel⟩, by decide +kernel⟩
theorem kv_L_70 : mWV RL 70 yX2_date cX2_date 11 (some .int) 6 := ⟨kw_848, kw_849, kw_850, kw_40, kw_851, ⟨by decide +kernel, by decide +kernel⟩, by decide +kernel⟩
theorem kc_X2_114 : (Cond.constant RX2 114 (86399)) ∈ mW := kw_852
theorem kc_X2_115 : (Cond.constant RX2 115 (999999999)) ∈ mW := kw_853
theorem kc_X2_116 : (Cond.constantLong RX2 116 (1910)) ∈ mW := kw_854
theorem kc_X2_118 : (Cond.constantLong RX2 118 (2030)) ∈ mW := kw_855
theorem ks_X2_120 : mWS RX2 120 yX0_isDay cX0_isDay 3 (some .boolean) 3 := ⟨kw_856, kw_857, kw_62, kw_858, ⟨by decide +kernel, by decide +kernel⟩, by decide +kernel⟩
theorem kc_X0_15 : (Cond.constantLong RX0 15 (12)) ∈ mW := kw_859
theorem kn_X0_17 : mWN RX0 RX2 17 yX2_isWithin cX2_isWithin 6 (some .boolean) 3 := ⟨kw_860, kw_235, kw_40, kw_236, ⟨by decide +kernel, by decide +kernel⟩, by decide +kernel⟩
theorem ks_X0_21 : mWS RX0 21 yX0_lengthOfMonth cX0_lengthOfMonth 2 (some .int) 2 := ⟨kw_861, kw_862, kw_62, kw_863, ⟨by decide +kernel, by decide +kernel⟩, by decide +kernel⟩
theorem ks_X2_126 : mWS RX2 126 yX0_dayOf cX0_dayOf 3 (some .int) 3 := ⟨kw_864, kw_865, kw_62, kw_866, ⟨by decide +kernel, by decide +kernel⟩, by decide +kernel⟩
theorem kc_X2_130 : (Cond.constantLong RX2 130 (86400)) ∈ mW := kw_867
theorem kv_X2_132 : mWV RX2 132 yX2_putLocal cX2_putLocal 6 (some .int) 4 := ⟨kw_868, kw_870, kw_17, kw_40, kw_871, ⟨by decide +kernel, by decide +kernel⟩, by decide +kernel⟩
theorem kh_L_189 : mWH RL 189 yL_dateOf cL_dateOf 6 (some .int) [(0, 13, 16, 19)] 5 := ⟨kw_872, kw_873, kw_39, kw_874, ⟨by decide +kernel, by decide +kernel⟩, by decide +kernel⟩
theorem kv_L_74 : mWV RL 74 yX2_dateOf cX2_dateOf 8 (some .int) 3 := ⟨kw_875, kw_876, kw_877, kw_40, kw_878, ⟨by decide +kernel, by decide +kernel⟩, by decide +kernel⟩
theorem kh_L_192 : mWH RL 192 yL_moveDate cL_moveDate 7 (some .int) [(0, 15, 18, 19), (0, 15, 22, 21)] 6 := ⟨kw_879, kw_880, kw_39, kw_881, ⟨by decide +kernel, by decide +kernel⟩, by decide +kernel⟩
theorem kv_L_77 : mWV RL 77 yX2_moveDate cX2_moveDate 8 (some .int) 4 := ⟨kw_882, kw_883, kw_884, kw_40, kw_885, ⟨by decide +kernel, by decide +kernel⟩, by decide +kernel⟩
theorem kv_X2_136 : mWV RX2 136 yX1_months cX1_months 1 (some .long) 0 := ⟨kw_886, kw_887, kw_888, kw_41, kw_889, ⟨by decide +kernel, by decide +kernel⟩, by decide +kernel⟩
theorem ks_X1_34 : mWS RX1 34 yX0_yearOf cX0_yearOf 2 (some .int) 1 := ⟨kw_890, kw_324, kw_62, kw_325, ⟨by decide +kernel, by decide +kernel⟩, by decide +kernel⟩
theorem kc_X1_40 : (Cond.constantLong RX1 40 (12)) ∈ mW := kw_891
theorem ks_X1_42 : mWS RX1 42 yX0_monthOf cX0_monthOf 4 (some .int) 1 := ⟨kw_892, kw_331, kw_62, kw_332, ⟨by decide +kernel, by decide +kernel⟩, by decide +kernel⟩
theorem kc_X2_140 : (Cond.constantLong RX2 140 (12)) ∈ mW := kw_893
theorem kv_X2_142 : mWV RX2 142 yX2_putMonths cX2_putMonths 9 (some .int) 2 := ⟨kw_894, kw_896, kw_18, kw_40, kw_897, ⟨by decide +kernel, by decide +kernel⟩, by decide +kernel⟩
theorem ks_X2_308 : mWS RX2 308 yX0_lengthOfMonth cX0_lengthOfMonth 2 (some .int) 2 := ⟨kw_898, kw_862, kw_62, kw_863, ⟨by decide +kernel, by decide +kernel⟩, by decide +kernel⟩
theorem ks_X2_314 : mWS RX2 314 yJ9_min_7cf53 cJ9_min_7cf53 2 (some .int) 2 := ⟨kw_899, kw_596, kw_49, kw_597, ⟨by decide +kernel, by decide +kernel⟩, by decide +kernel⟩
theorem kv_X2_317 : mWV RX2 317 yX2_putDay cX2_putDay 3 (some .int) 2 := ⟨kw_900, kw_902, kw_19, kw_40, kw_903, ⟨by decide +kernel, by decide +kernel⟩, by decide +kernel⟩
theorem ks_X2_150 : mWS RX2 150 yX2_secondsOn cX2_secondsOn 4 (some .long) 3 := ⟨kw_904, kw_905, kw_40, kw_906, ⟨by decide +kernel, by decide +kernel⟩, by decide +kernel⟩
theorem kc_X2_302 : (Cond.constantLong RX2 302 (7)) ∈ mW := kw_907
theorem kc_X2_304 : (Cond.constantLong RX2 304 (3600)) ∈ mW := kw_908
theorem kc_X2_306 : (Cond.constantLong RX2 306 (60)) ∈ mW := kw_909
theorem ks_X2_154 : mWS RX2 154 yX2_nanoOn cX2_nanoOn 4 (some .int) 3 := ⟨kw_910, kw_911, kw_40, kw_912, ⟨by decide +kernel, by decide +kernel⟩, by decide +kernel⟩
theorem kh_L_195 : mWH RL 195 yL_set cL_set 6 (some .int) [(0, 13, 16, 19), (0, 13, 20, 21)] 5 := ⟨kw_913, kw_914, kw_39, kw_915, ⟨by decide +kernel, by decide +kernel⟩, by decide +kernel⟩
theorem kv_L_80 : mWV RL 80 yX2_set cX2_set 5 (some .int) 3 := ⟨kw_916, kw_917, kw_918, kw_40, kw_919, ⟨by decide +kernel, by decide +kernel⟩, by decide +kernel⟩
theorem kv_X2_162 : mWV RX2 162 yX2_setOfDay cX2_setOfDay 6 (some .int) 3 := ⟨kw_920, kw_922, kw_20, kw_40, kw_923, ⟨by decide +kernel, by decide +kernel⟩, by decide +kernel⟩
theorem ks_X2_329 : mWS RX2 329 yX0_lengthOfYear cX0_lengthOfYear 1 (some .int) 1 := ⟨kw_924, kw_925, kw_62, kw_926, ⟨by decide +kernel, by decide +kernel⟩, by decide +kernel⟩
theorem ks_X2_332 : mWS RX2 332 yX0_firstDayOf cX0_firstDayOf 2 (some .int) 1 := ⟨kw_927, kw_327, kw_62, kw_328, ⟨by decide +kernel, by decide +kernel⟩, by decide +kernel⟩
theorem kv_X2_166 : mWV RX2 166 yX2_setOfTime cX2_setOfTime 4 (some .int) 3 := ⟨kw_928, kw_930, kw_21, kw_40, kw_931, ⟨by decide +kernel, by decide +kernel⟩, by decide +kernel⟩
theorem kv_X2_338 : mWV RX2 338 yX2_setPart cX2_setPart 7 (some .int) 5 := ⟨kw_932, kw_934, kw_22, kw_40, kw_935, ⟨by decide +kernel, by decide +kernel⟩, by decide +kernel⟩
theorem kc_X2_348 : (Cond.constantLong RX2 348 (999999999)) ∈ mW := kw_936
theorem kh_L_198 : mWH RL 198 yL_anew cL_anew 6 (some .int) [(0, 13, 16, 19)] 5 := ⟨kw_937, kw_938, kw_39, kw_939, ⟨by decide +kernel, by decide +kernel⟩, by decide +kernel⟩
theorem kv_L_83 : mWV RL 83 yX2_anew cX2_anew 8 (some .int) 3 := ⟨kw_940, kw_941, kw_942, kw_40, kw_943, ⟨by decide +kernel, by decide +kernel⟩, by decide +kernel⟩
theorem kh_L_202 : mWH RL 202 yL_copy cL_copy 5 (some .int) [(0, 11, 14, 19)] 4 := ⟨kw_944, kw_945, kw_39, kw_946, ⟨by decide +kernel, by decide +kernel⟩, by decide +kernel⟩
theorem kv_L_87 : mWV RL 87 yX2_copy cX2_copy 5 (some .int) 2 := ⟨kw_947, kw_948, kw_949, kw_40, kw_950, ⟨by decide +kernel, by decide +kernel⟩, by decide +kernel⟩
theorem kh_L_205 : mWH RL 205 yL_ofDate cL_ofDate 5 (some .int) [(0, 11, 14, 19), (0, 11, 18, 21)] 4 := ⟨kw_951, kw_952, kw_39, kw_953, ⟨by decide +kernel, by decide +kernel⟩, by decide +kernel⟩
theorem kv_L_90 : mWV RL 90 yX2_ofDate cX2_ofDate 4 (some .int) 2 := ⟨kw_954, kw_955, kw_956, kw_40, kw_957, ⟨by decide +kernel, by decide +kernel⟩, by decide +kernel⟩
theorem kh_L_208 : mWH RL 208 yL_orderDate cL_orderDate 5 (some .int) [(0, 11, 14, 19)] 4 := ⟨kw_958, kw_959, kw_39, kw_960, ⟨by decide +kernel, by decide +kernel⟩, by decide +kernel⟩
theorem kv_L_93 : mWV RL 93 yX2_orderDate cX2_orderDate 3 (some .int) 2 := ⟨kw_961, kw_962, kw_963, kw_40, kw_964, ⟨by decide +kernel, by decide +kernel⟩, by decide +kernel⟩
theorem kh_L_211 : mWH RL 211 yL_isDate cL_isDate 6 (some .int) [(0, 20, 23, 19), (0, 20, 27, 21)] 5 := ⟨kw_965, kw_966, kw_39, kw_967, ⟨by decide +kernel, by decide +kernel⟩, by decide +kernel⟩
theorem kv_L_96 : mWV RL 96 yX2_isDate cX2_isDate 6 (some .boolean) 3 := ⟨kw_968, kw_969, kw_970, kw_40, kw_971, ⟨by decide +kernel, by decide +kernel⟩, by decide +kernel⟩
theorem ks_X2_183 : mWS RX2 183 yX2_isSo cX2_isSo 3 (some .boolean) 3 := ⟨kw_972, kw_973, kw_40, kw_974, ⟨by decide +kernel, by decide +kernel⟩, by decide +kernel⟩
theorem kh_L_214 : mWH RL 214 yL_clock cL_clock 7 (some .int) [(0, 15, 18, 19), (0, 15, 22, 21)] 6 := ⟨kw_975, kw_976, kw_39, kw_977, ⟨by decide +kernel, by decide +kernel⟩, by decide +kernel⟩
theorem kv_L_99 : mWV RL 99 yX2_clock cX2_clock 7 (some .int) 4 := ⟨kw_978, kw_979, kw_980, kw_40, kw_981, ⟨by decide +kernel, by decide +kernel⟩, by decide +kernel⟩
theorem kv_X2_187 : mWV RX2 187 yX2_putClock cX2_putClock 6 (some .int) 4 := ⟨kw_982, kw_984, kw_23, kw_40, kw_985, ⟨by decide +kernel, by decide +kernel⟩, by decide +kernel⟩
theorem kh_L_217 : mWH RL 217 yL_clockOf cL_clockOf 5 (some .int) [(0, 11, 14, 19)] 4 := ⟨kw_986, kw_987, kw_39, kw_988, ⟨by decide +kernel, by decide +kernel⟩, by decide +kernel⟩
theorem kv_L_102 : mWV RL 102 yX2_clockOf cX2_clockOf 5 (some .int) 2 := ⟨kw_989, kw_990, kw_991, kw_40, kw_992, ⟨by decide +kernel, by decide +kernel⟩, by decide +kernel⟩
theorem kh_L_220 : mWH RL 220 yL_strike cL_strike 5 (some .int) [(0, 11, 14, 19)] 4 := ⟨kw_993, kw_994, kw_39, kw_995, ⟨by decide +kernel, by decide +kernel⟩, by decide +kernel⟩
theorem kv_L_105 : mWV RL 105 yX2_strike cX2_strike 5 (some .int) 2 := ⟨kw_996, kw_997, kw_998, kw_40, kw_999, ⟨by decide +kernel, by decide +kernel⟩, by decide +kernel⟩
theorem kh_L_223 : mWH RL 223 yL_moveClock cL_moveClock 7 (some .int) [(0, 15, 18, 19), (0, 15, 22, 21)] 6 := ⟨kw_1000, kw_1001, kw_39, kw_1002, ⟨by decide +kernel, by decide +kernel⟩, by decide +kernel⟩
theorem kv_L_108 : mWV RL 108 yX2_moveClock cX2_moveClock 8 (some .int) 4 := ⟨kw_1003, kw_1004, kw_1005, kw_40, kw_1006, ⟨by decide +kernel, by decide +kernel⟩, by decide +kernel⟩
theorem kh_L_226 : mWH RL 226 yL_anewClock cL_anewClock 6 (some .int) [(0, 13, 16, 19)] 5 := ⟨kw_1007, kw_1008, kw_39, kw_1009, ⟨by decide +kernel, by decide +kernel⟩, by decide +kernel⟩
theorem kv_L_111 : mWV RL 111 yX2_anewClock cX2_anewClock 8 (some .int) 3 := ⟨kw_1010, kw_1011, kw_1012, kw_40, kw_1013, ⟨by decide +kernel, by decide +kernel⟩, by decide +kernel⟩
theorem kh_L_229 : mWH RL 229 yL_copyClock cL_copyClock 5 (some .int) [(0, 11, 14, 19)] 4 := ⟨kw_1014, kw_1015, kw_39, kw_1016, ⟨by decide +kernel, by decide +kernel⟩, by decide +kernel⟩
theorem kv_L_114 : mWV RL 114 yX2_copyClock cX2_copyClock 5 (some .int) 2 := ⟨kw_1017, kw_1018, kw_1019, kw_40, kw_1020, ⟨by decide +kernel, by decide +kernel⟩, by decide +kernel⟩
theorem kh_L_232 : mWH RL 232 yL_ofClock cL_ofClock 5 (some .int) [(0, 11, 14, 19), (0, 11, 18, 21)] 4 := ⟨kw_1021, kw_1022, kw_39, kw_1023, ⟨by decide +kernel, by decide +kernel⟩, by decide +kernel⟩
theorem kv_L_117 : mWV RL 117 yX2_ofClock cX2_ofClock 4 (some .int) 2 := ⟨kw_1024, kw_1025, kw_1026, kw_40, kw_1027, ⟨by decide +kernel, by decide +kernel⟩, by decide +kernel⟩
theorem kh_L_235 : mWH RL 235 yL_orderClock cL_orderClock 5 (some .int) [(0, 11, 14, 19)] 4 := ⟨kw_1028, kw_1029, kw_39, kw_1030, ⟨by decide +kernel, by decide +kernel⟩, by decide +kernel⟩
theorem kv_L_120 : mWV RL 120 yX2_orderClock cX2_orderClock 3 (some .int) 2 := ⟨kw_1031, kw_1032, kw_1033, kw_40, kw_1034, ⟨by decide +kernel, by decide +kernel⟩, by decide +kernel⟩
theorem kh_L_238 : mWH RL 238 yL_isClock cL_isClock 6 (some .int) [(0, 20, 23, 19), (0, 20, 27, 21)] 5 := ⟨kw_1035, kw_1036, kw_39, kw_1037, ⟨by decide +kernel, by decide +kernel⟩, by decide +kernel⟩
theorem kv_L_123 : mWV RL 123 yX2_isClock cX2_isClock 6 (some .boolean) 3 := ⟨kw_1038, kw_1039, kw_1040, kw_40, kw_1041, ⟨by decide +kernel, by decide +kernel⟩, by decide +kernel⟩
theorem kh_L_245 : mWH RL 245 yL_house cL_house 4 (some .int) [(0, 10, 13, 21)] 3 := ⟨kw_1042, kw_1043, kw_39, kw_1044, ⟨by decide +kernel, by decide +kernel⟩, by decide +kernel⟩
theorem kv_L_126 : mWV RL 126 yX2_house cX2_house 2 (some .int) 1 := ⟨kw_1045, kw_387, kw_388, kw_40, kw_389, ⟨by decide +kernel, by decide +kernel⟩, by decide +kernel⟩
theorem kl_L_130 : (Cond.classLink RL 130 RX4) ∈ mW := kw_1046
theorem ki_X4 : (Cond.instantiable RX4 9) ∈ mW := kw_1047
theorem kf_X4_29 : mFd RX4 29 5 0 RX4 TX4 9 .int := ⟨kinX4, ⟨_, tyX4_ok⟩, nmX4, rfl, by decide, kw_1052, by decide +kernel⟩
theorem kf_X4_219 : mFd RX4 219 5 1 RX4 TX4 9 .int := ⟨kinX4, ⟨_, tyX4_ok⟩, nmX4, rfl, by decide, kw_1053, by decide +kernel⟩
theorem kf_X4_33 : mFd RX4 33 5 2 RX4 TX4 9 .int := ⟨kinX4, ⟨_, tyX4_ok⟩, nmX4, rfl, by decide, kw_1054, by decide +kernel⟩
theorem kf_X4_7 : mFd RX4 7 5 3 RX4 TX4 9 (.array .int) := ⟨kinX4, ⟨_, tyX4_ok⟩, nmX4, rfl, by decide, kw_1055, by decide +kernel⟩
theorem kf_X4_13 : mFd RX4 13 5 4 RX4 TX4 9 (.array .long) := ⟨kinX4, ⟨_, tyX4_ok⟩, nmX4, rfl, by decide, kw_1056, by decide +kernel⟩
theorem kf_X4_17 : mFd RX4 17 5 5 RX4 TX4 9 (.array .int) := ⟨kinX4, ⟨_, tyX4_ok⟩, nmX4, rfl, by decide, kw_1057, by decide +kernel⟩
theorem kf_X4_20 : mFd RX4 20 5 6 RX4 TX4 9 (.array .int) := ⟨kinX4, ⟨_, tyX4_ok⟩, nmX4, rfl, by decide, kw_1058, by decide +kernel⟩
theorem kf_X4_23 : mFd RX4 23 5 7 RX4 TX4 9 (.array .int) := ⟨kinX4, ⟨_, tyX4_ok⟩, nmX4, rfl, by decide, kw_1059, by decide +kernel⟩
theorem kf_X4_26 : mFd RX4 26 5 8 RX4 TX4 9 (.array .int) := ⟨kinX4, ⟨_, tyX4_ok⟩, nmX4, rfl, by decide, kw_1060, by decide +kernel⟩
theorem kv_L_140 : mWV RL 140 yX4_thrown cX4_thrown 1 (some .int) 0 := ⟨kw_1080, kw_1081, kw_1082, kw_42, kw_1083, ⟨by decide +kernel, by decide +kernel⟩, by decide +kernel⟩
theorem kv_L_139 : mWV RL 139 yX4_offset cX4_offset 4 (some .int) 2 := ⟨kw_1084, kw_1085, kw_1086, kw_42, kw_1087, ⟨by decide +kernel, by decide +kernel⟩, by decide +kernel⟩
theorem ks_X4_61 : mWS RX4 61 yX4_isNone cX4_isNone 1 (some .boolean) 1 := ⟨kw_1088, kw_1089, kw_42, kw_1090, ⟨by decide +kernel, by decide +kernel⟩, by decide +kernel⟩
theorem kc_X4_36 : (Cond.constantLong RX4 36 (3)) ∈ mW := kw_1091
theorem ks_X4_38 : mWS RX4 38 yX4_isIn cX4_isIn 6 (some .boolean) 3 := ⟨kw_1092, kw_1093, kw_42, kw_1094, ⟨by decide +kernel, by decide +kernel⟩, by decide +kernel⟩
theorem kc_X4_64 : (Cond.constantLong RX4 64 (-64800)) ∈ mW := kw_1095
theorem kc_X4_66 : (Cond.constantLong RX4 66 (64800)) ∈ mW := kw_1096
theorem kv_X4_68 : mWV RX4 68 yX4_isStopped cX4_isStopped 3 (some .boolean) 2 := ⟨kw_1097, kw_1099, kw_24, kw_42, kw_1100, ⟨by decide +kernel, by decide +kernel⟩, by decide +kernel⟩
theorem kv_L_147 : mWV RL 147 yX4_offsetOf cX4_offsetOf 7 (some .int) 4 := ⟨kw_1101, kw_1102, kw_1103, kw_42, kw_1104, ⟨by decide +kernel, by decide +kernel⟩, by decide +kernel⟩
theorem kc_X4_72 : (Cond.constantLong RX4 72 (-18)) ∈ mW := kw_1105
theorem kc_X4_74 : (Cond.constantLong RX4 74 (18)) ∈ mW := kw_1106
theorem kc_X4_76 : (Cond.constantLong RX4 76 (-59)) ∈ mW := kw_1107
theorem kc_X4_78 : (Cond.constantLong RX4 78 (59)) ∈ mW := kw_1108
theorem kv_X4_80 : mWV RX4 80 yX4_no cX4_no 1 (some .int) 0 := ⟨kw_1109, kw_1111, kw_25, kw_42, kw_1112, ⟨by decide +kernel, by decide +kernel⟩, by decide +kernel⟩
theorem kv_L_151 : mWV RL 151 yX4_seconds cX4_seconds 2 (some .int) 1 := ⟨kw_1113, kw_1114, kw_1115, kw_42, kw_1116, ⟨by decide +kernel, by decide +kernel⟩, by decide +kernel⟩
theorem kv_L_154 : mWV RL 154 yX4_orderOffset cX4_orderOffset 3 (some .int) 2 := ⟨kw_1117, kw_1118, kw_1119, kw_42, kw_1120, ⟨by decide +kernel, by decide +kernel⟩, by decide +kernel⟩
theorem ks_X4_88 : mWS RX4 88 yX4_order cX4_order 4 (some .int) 2 := ⟨kw_1121, kw_1122, kw_42, kw_1123, ⟨by decide +kernel, by decide +kernel⟩, by decide +kernel⟩
theorem ks_X4_84 : mWS RX4 84 yX4_one cX4_one 1 (some .int) 1 := ⟨kw_1124, kw_1125, kw_42, kw_1126, ⟨by decide +kernel, by decide +kernel⟩, by decide +kernel⟩
theorem kv_L_158 : mWV RL 158 yX4_moment cX4_moment 4 (some .int) 3 := ⟨kw_1127, kw_1128, kw_1129, kw_42, kw_1130, ⟨by decide +kernel, by decide +kernel⟩, by decide +kernel⟩
theorem kc_X4_96 : (Cond.constantLong RX4 96 (1000000000)) ∈ mW := kw_1131
theorem kv_X4_105 : mWV RX4 105 yX4_become cX4_become 4 (some .int) 2 := ⟨kw_1132, kw_1134, kw_26, kw_42, kw_1135, ⟨by decide +kernel, by decide +kernel⟩, by decide +kernel⟩
theorem ks_X4_92 : mWS RX4 92 yX4_whole cX4_whole 4 (some .long) 2 := ⟨kw_1136, kw_1137, kw_42, kw_1138, ⟨by decide +kernel, by decide +kernel⟩, by decide +kernel⟩
theorem kc_X4_98 : (Cond.constantLong RX4 98 (-1800000000)) ∈ mW := kw_1139
theorem kc_X4_100 : (Cond.constantLong RX4 100 (1800000000)) ∈ mW := kw_1140
theorem ks_X4_102 : mWS RX4 102 yX4_rest cX4_rest 4 (some .int) 2 := ⟨kw_1141, kw_1142, kw_42, kw_1143, ⟨by decide +kernel, by decide +kernel⟩, by decide +kernel⟩
theorem kv_L_161 : mWV RL 161 yX4_milli cX4_milli 4 (some .int) 3 := ⟨kw_1144, kw_1145, kw_1146, kw_42, kw_1147, ⟨by decide +kernel, by decide +kernel⟩, by decide +kernel⟩
theorem kc_X4_109 : (Cond.constantLong RX4 109 (1000)) ∈ mW := kw_1148
theorem kc_X4_111 : (Cond.constantLong RX4 111 (1000000)) ∈ mW := kw_1149
theorem kv_L_165 : mWV RL 165 yX4_move cX4_move 7 (some .int) 4 := ⟨kw_1150, kw_1151, kw_1152, kw_42, kw_1153, ⟨by decide +kernel, by decide +kernel⟩, by decide +kernel⟩
theorem kc_X4_42 : (Cond.constantLong RX4 42 (2)) ∈ mW := kw_1154
theorem kv_L_168 : mWV RL 168 yX4_momentOf cX4_momentOf 3 (some .int) 2 := ⟨kw_1155, kw_1156, kw_1157, kw_42, kw_1158, ⟨by decide +kernel, by decide +kernel⟩, by decide +kernel⟩
theorem kv_X4_115 : mWV RX4 115 yX4_number cX4_number 2 (some .long) 1 := ⟨kw_1159, kw_1161, kw_27, kw_42, kw_1162, ⟨by decide +kernel, by decide +kernel⟩, by decide +kernel⟩
theorem kc_X4_113 : (Cond.constantLong RX4 113 (86400)) ∈ mW := kw_1163
theorem kv_L_184 : mWV RL 184 yX4_copyMoment cX4_copyMoment 3 (some .int) 2 := ⟨kw_1164, kw_1165, kw_1166, kw_42, kw_1167, ⟨by decide +kernel, by decide +kernel⟩, by decide +kernel⟩
theorem kv_L_172 : mWV RL 172 yX4_ofMoment cX4_ofMoment 3 (some .int) 2 := ⟨kw_1168, kw_1169, kw_1170, kw_42, kw_1171, ⟨by decide +kernel, by decide +kernel⟩, by decide +kernel⟩
theorem kv_L_175 : mWV RL 175 yX4_millis cX4_millis 2 (some (.object "java/lang/String")) 1 := ⟨kw_1172, kw_1173, kw_1174, kw_42, kw_1175, ⟨by decide +kernel, by decide +kernel⟩, by decide +kernel⟩
theorem kl_X4_121 : (Cond.classLink RX4 121 "java/lang/StringBuilder") ∈ mW := kw_1177
theorem kv_L_178 : mWV RL 178 yX4_orderMoment cX4_orderMoment 3 (some .int) 2 := ⟨kw_1208, kw_1209, kw_1210, kw_42, kw_1211, ⟨by decide +kernel, by decide +kernel⟩, by decide +kernel⟩
theorem kv_L_181 : mWV RL 181 yX4_isMoment cX4_isMoment 4 (some .boolean) 3 := ⟨kw_1212, kw_1213, kw_1214, kw_42, kw_1215, ⟨by decide +kernel, by decide +kernel⟩, by decide +kernel⟩
theorem kv_L_188 : mWV RL 188 yX4_date cX4_date 7 (some .int) 6 := ⟨kw_1216, kw_1217, kw_1218, kw_42, kw_1219, ⟨by decide +kernel, by decide +kernel⟩, by decide +kernel⟩
theorem kc_X4_153 : (Cond.constantLong RX4 153 (9999)) ∈ mW := kw_1220
theorem ks_X4_155 : mWS RX4 155 yX4_isTime cX4_isTime 2 (some .boolean) 2 := ⟨kw_1221, kw_1222, kw_42, kw_1223, ⟨by decide +kernel, by decide +kernel⟩, by decide +kernel⟩
theorem kc_X4_143 : (Cond.constantLong RX4 143 (86399)) ∈ mW := kw_1224
theorem kc_X4_145 : (Cond.constantLong RX4 145 (999999999)) ∈ mW := kw_1225
theorem ks_X4_159 : mWS RX4 159 yX4_isThere cX4_isThere 3 (some .boolean) 3 := ⟨kw_1226, kw_1227, kw_42, kw_1228, ⟨by decide +kernel, by decide +kernel⟩, by decide +kernel⟩
theorem kc_X4_147 : (Cond.constantLong RX4 147 (1910)) ∈ mW := kw_1229
theorem kc_X4_149 : (Cond.constantLong RX4 149 (2030)) ∈ mW := kw_1230
theorem kc_X4_151 : (Cond.constantLong RX4 151 (12)) ∈ mW := kw_1231
theorem ks_X4_55 : mWS RX4 55 yX4_daysOf cX4_daysOf 2 (some .int) 2 := ⟨kw_1232, kw_1233, kw_42, kw_1234, ⟨by decide +kernel, by decide +kernel⟩, by decide +kernel⟩
theorem ks_X4_44 : mWS RX4 44 yX4_isLeap cX4_isLeap 1 (some .boolean) 1 := ⟨kw_1235, kw_1236, kw_42, kw_1237, ⟨by decide +kernel, by decide +kernel⟩, by decide +kernel⟩
theorem ks_X4_163 : mWS RX4 163 yX4_dayOf cX4_dayOf 5 (some .int) 3 := ⟨kw_1238, kw_1239, kw_42, kw_1240, ⟨by decide +kernel, by decide +kernel⟩, by decide +kernel⟩
theorem ks_X4_52 : mWS RX4 52 yX4_firstOf cX4_firstOf 3 (some .int) 1 := ⟨kw_1241, kw_1242, kw_42, kw_1243, ⟨by decide +kernel, by decide +kernel⟩, by decide +kernel⟩
theorem ks_X4_48 : mWS RX4 48 yX4_daysOf_ cX4_daysOf_ 1 (some .int) 1 := ⟨kw_1244, kw_1245, kw_42, kw_1246, ⟨by decide +kernel, by decide +kernel⟩, by decide +kernel⟩
theorem kv_X4_139 : mWV RX4 139 yX4_put cX4_put 6 (some .int) 5 := ⟨kw_1247, kw_1249, kw_28, kw_42, kw_1250, ⟨by decide +kernel, by decide +kernel⟩, by decide +kernel⟩
theorem kv_L_191 : mWV RL 191 yX4_dateOf cX4_dateOf 4 (some .int) 3 := ⟨kw_1251, kw_1252, kw_1253, kw_42, kw_1254, ⟨by decide +kernel, by decide +kernel⟩, by decide +kernel⟩
theorem kv_X4_167 : mWV RX4 167 yX4_put_ cX4_put_ 10 (some .int) 5 := ⟨kw_1255, kw_1257, kw_29, kw_42, kw_1258, ⟨by decide +kernel, by decide +kernel⟩, by decide +kernel⟩
theorem ks_X4_135 : mWS RX4 135 yX4_isDay cX4_isDay 2 (some .boolean) 1 := ⟨kw_1259, kw_1260, kw_42, kw_1261, ⟨by decide +kernel, by decide +kernel⟩, by decide +kernel⟩
theorem kv_L_194 : mWV RL 194 yX4_moveDate cX4_moveDate 9 (some .int) 4 := ⟨kw_1262, kw_1263, kw_1264, kw_42, kw_1265, ⟨by decide +kernel, by decide +kernel⟩, by decide +kernel⟩
theorem kc_X4_183 : (Cond.constantLong RX4 183 (7)) ∈ mW := kw_1266
theorem kv_X4_185 : mWV RX4 185 yX4_moveMonths cX4_moveMonths 9 (some .int) 2 := ⟨kw_1267, kw_1269, kw_30, kw_42, kw_1270, ⟨by decide +kernel, by decide +kernel⟩, by decide +kernel⟩
theorem ks_X4_170 : mWS RX4 170 yX4_parts cX4_parts 5 (some (.array .int)) 1 := ⟨kw_1271, kw_1272, kw_42, kw_1273, ⟨by decide +kernel, by decide +kernel⟩, by decide +kernel⟩
theorem ks_X4_58 : mWS RX4 58 yX4_yearOf cX4_yearOf 3 (some .int) 1 := ⟨kw_1274, kw_1275, kw_42, kw_1276, ⟨by decide +kernel, by decide +kernel⟩, by decide +kernel⟩
theorem kv_X4_174 : mWV RX4 174 yX4_putDay cX4_putDay 5 (some .int) 4 := ⟨kw_1277, kw_1279, kw_31, kw_42, kw_1280, ⟨by decide +kernel, by decide +kernel⟩, by decide +kernel⟩
theorem ks_X4_178 : mWS RX4 178 yJ9_min_7cf53 cJ9_min_7cf53 2 (some .int) 2 := ⟨kw_1281, kw_596, kw_49, kw_597, ⟨by decide +kernel, by decide +kernel⟩, by decide +kernel⟩
theorem ks_X4_188 : mWS RX4 188 yX4_secondsOf cX4_secondsOf 1 (some .int) 1 := ⟨kw_1282, kw_1283, kw_42, kw_1284, ⟨by decide +kernel, by decide +kernel⟩, by decide +kernel⟩
theorem kv_L_197 : mWV RL 197 yX4_set cX4_set 6 (some .int) 3 := ⟨kw_1285, kw_1286, kw_1287, kw_42, kw_1288, ⟨by decide +kernel, by decide +kernel⟩, by decide +kernel⟩
theorem kc_X4_191 : (Cond.constantLong RX4 191 (23)) ∈ mW := kw_1289
theorem kv_L_201 : mWV RL 201 yX4_anew cX4_anew 5 (some .int) 3 := ⟨kw_1290, kw_1291, kw_1292, kw_42, kw_1293, ⟨by decide +kernel, by decide +kernel⟩, by decide +kernel⟩
theorem kv_L_204 : mWV RL 204 yX4_copy cX4_copy 3 (some .int) 2 := ⟨kw_1294, kw_1295, kw_1296, kw_42, kw_1297, ⟨by decide +kernel, by decide +kernel⟩, by decide +kernel⟩
theorem kv_L_207 : mWV RL 207 yX4_ofDate cX4_ofDate 3 (some .int) 2 := ⟨kw_1298, kw_1299, kw_1300, kw_42, kw_1301, ⟨by decide +kernel, by decide +kernel⟩, by decide +kernel⟩
theorem kv_X4_193 : mWV RX4 193 yX4_told cX4_told 4 (some .int) 2 := ⟨kw_1302, kw_1304, kw_32, kw_42, kw_1305, ⟨by decide +kernel, by decide +kernel⟩, by decide +kernel⟩
theorem kv_L_210 : mWV RL 210 yX4_orderDate cX4_orderDate 3 (some .int) 2 := ⟨kw_1306, kw_1307, kw_1308, kw_42, kw_1309, ⟨by decide +kernel, by decide +kernel⟩, by decide +kernel⟩
theorem kv_X4_196 : mWV RX4 196 yX4_ordered cX4_ordered 3 (some .int) 2 := ⟨kw_1310, kw_1312, kw_33, kw_42, kw_1313, ⟨by decide +kernel, by decide +kernel⟩, by decide +kernel⟩
theorem kv_L_213 : mWV RL 213 yX4_isDate cX4_isDate 4 (some .boolean) 3 := ⟨kw_1314, kw_1315, kw_1316, kw_42, kw_1317, ⟨by decide +kernel, by decide +kernel⟩, by decide +kernel⟩
theorem kv_X4_199 : mWV RX4 199 yX4_is cX4_is 4 (some .boolean) 3 := ⟨kw_1318, kw_1320, kw_34, kw_42, kw_1321, ⟨by decide +kernel, by decide +kernel⟩, by decide +kernel⟩
theorem kv_L_216 : mWV RL 216 yX4_clock cX4_clock 5 (some .int) 4 := ⟨kw_1322, kw_1323, kw_1324, kw_42, kw_1325, ⟨by decide +kernel, by decide +kernel⟩, by decide +kernel⟩
theorem ks_X4_205 : mWS RX4 205 yX4_isNoClock cX4_isNoClock 1 (some .boolean) 1 := ⟨kw_1326, kw_1327, kw_42, kw_1328, ⟨by decide +kernel, by decide +kernel⟩, by decide +kernel⟩
theorem kv_X4_208 : mWV RX4 208 yX4_turn cX4_turn 6 (some .int) 4 := ⟨kw_1329, kw_1331, kw_35, kw_42, kw_1332, ⟨by decide +kernel, by decide +kernel⟩, by decide +kernel⟩
theorem kv_X4_202 : mWV RX4 202 yX4_ofSecond cX4_ofSecond 2 (some .int) 1 := ⟨kw_1333, kw_1335, kw_36, kw_42, kw_1336, ⟨by decide +kernel, by decide +kernel⟩, by decide +kernel⟩
theorem kv_L_219 : mWV RL 219 yX4_clockOf cX4_clockOf 3 (some .int) 2 := ⟨kw_1337, kw_1338, kw_1339, kw_42, kw_1340, ⟨by decide +kernel, by decide +kernel⟩, by decide +kernel⟩
theorem kv_L_231 : mWV RL 231 yX4_copyClock cX4_copyClock 3 (some .int) 2 := ⟨kw_1341, kw_1342, kw_1343, kw_42, kw_1344, ⟨by decide +kernel, by decide +kernel⟩, by decide +kernel⟩
theorem kv_L_222 : mWV RL 222 yX4_strike cX4_strike 3 (some .int) 2 := ⟨kw_1345, kw_1346, kw_1347, kw_42, kw_1348, ⟨by decide +kernel, by decide +kernel⟩, by decide +kernel⟩
theorem kv_L_225 : mWV RL 225 yX4_moveClock cX4_moveClock 9 (some .int) 4 := ⟨kw_1349, kw_1350, kw_1351, kw_42, kw_1352, ⟨by decide +kernel, by decide +kernel⟩, by decide +kernel⟩
theorem kc_X4_212 : (Cond.constantLong RX4 212 (4)) ∈ mW := kw_1353
theorem kv_L_228 : mWV RL 228 yX4_anewClock cX4_anewClock 5 (some .int) 3 := ⟨kw_1354, kw_1355, kw_1356, kw_42, kw_1357, ⟨by decide +kernel, by decide +kernel⟩, by decide +kernel⟩
theorem kv_L_234 : mWV RL 234 yX4_ofClock cX4_ofClock 3 (some .int) 2 := ⟨kw_1358, kw_1359, kw_1360, kw_42, kw_1361, ⟨by decide +kernel, by decide +kernel⟩, by decide +kernel⟩
theorem kc_X4_214 : (Cond.constantLong RX4 214 (5)) ∈ mW := kw_1362
theorem kv_X4_216 : mWV RX4 216 yX4_clockTold cX4_clockTold 3 (some .int) 2 := ⟨kw_1363, kw_1365, kw_37, kw_42, kw_1366, ⟨by decide +kernel, by decide +kernel⟩, by decide +kernel⟩
theorem kv_L_237 : mWV RL 237 yX4_orderClock cX4_orderClock 3 (some .int) 2 := ⟨kw_1367, kw_1368, kw_1369, kw_42, kw_1370, ⟨by decide +kernel, by decide +kernel⟩, by decide +kernel⟩
theorem kv_L_240 : mWV RL 240 yX4_isClock cX4_isClock 4 (some .boolean) 3 := ⟨kw_1371, kw_1372, kw_1373, kw_42, kw_1374, ⟨by decide +kernel, by decide +kernel⟩, by decide +kernel⟩
theorem kv_L_244 : mWV RL 244 yX4_knock cX4_knock 1 (some .int) 0 := ⟨kw_1375, kw_1376, kw_1377, kw_42, kw_1378, ⟨by decide +kernel, by decide +kernel⟩, by decide +kernel⟩
theorem kv_L_247 : mWV RL 247 yX4_house cX4_house 2 (some .int) 1 := ⟨kw_1379, kw_1380, kw_1381, kw_42, kw_1382, ⟨by decide +kernel, by decide +kernel⟩, by decide +kernel⟩
theorem kv_X4_222 : mWV RX4 222 yX4_houseTold cX4_houseTold 5 (some .int) 1 := ⟨kw_1383, kw_1385, kw_38, kw_42, kw_1386, ⟨by decide +kernel, by decide +kernel⟩, by decide +kernel⟩
theorem kv_L_252 : mWV RL 252 yX4_isSound cX4_isSound 1 (some .boolean) 0 := ⟨kw_1387, kw_1388, kw_1389, kw_42, kw_1390, ⟨by decide +kernel, by decide +kernel⟩, by decide +kernel⟩
theorem kv_L_257 : mWV RL 257 yX4_digest cX4_digest 8 (some .long) 0 := ⟨kw_1391, kw_1392, kw_1393, kw_42, kw_1394, ⟨by decide +kernel, by decide +kernel⟩, by decide +kernel⟩
theorem kc_X4_225 : (Cond.constantLong RX4 225 (6199)) ∈ mW := kw_1395
theorem kc_X4_227 : (Cond.constantLong RX4 227 (31)) ∈ mW := kw_1396
end
section
/-! THE WORLD OF A DESK, and the shapes of its contracts. (Own work.) -/
/-- what a desk holds: its offsets, its moments, its local times (DATEDs 0 to 3, CLOCKs 4 to 6, the two tried ones 7 and 8), how often it knocked and refused -/
abbrev mK : Type := (Nat → Int32) × (Nat → Int64) × (Nat → Int64 × Int32 × Int32) × Int32 × Int32
def mLc (x : Int64 × Int32 × Int32) : va_E := .inr (2, [.long x.1, .int x.2.1, .int x.2.2])
def mWd (ad : Nat → Nat) (cs : ClassId × ClassId × ClassId) (K : mK) (rest : va_W) : va_W :=
  (ad 0, .inr (3, [.ref (ad 1), .ref (ad 2), .ref (ad 3), .ref (ad 4), .ref (ad 12), .ref (ad 13), .int K.2.2.2.1, .int K.2.2.2.2])) ::
  (ad 1, .inl (cs.1, 4, .inl K.1)) :: (ad 2, .inl (cs.2.1, 4, .inr (.inl K.2.1))) ::
  (ad 3, .inl (cs.2.2, 4, .inr (.inr (.inr (.inr (fun j => some (ad (j + 0 + 5)))))))) ::
  (ad 4, .inl (cs.2.2, 3, .inr (.inr (.inr (.inr (fun j => some (ad (j + 4 + 5)))))))) ::
  (ad 5, mLc (K.2.2.1 0)) :: (ad 6, mLc (K.2.2.1 1)) :: (ad 7, mLc (K.2.2.1 2)) :: (ad 8, mLc (K.2.2.1 3)) :: (ad 9, mLc (K.2.2.1 4)) :: (ad 10, mLc (K.2.2.1 5)) :: (ad 11, mLc (K.2.2.1 6)) :: (ad 12, mLc (K.2.2.1 7)) :: (ad 13, mLc (K.2.2.1 8)) :: rest
def mTy (cs : ClassId × ClassId × ClassId) : List (ClassId × FieldType) := [(cs.1, .int), (cs.2.1, .long), (cs.2.2, .object RX1)]
def mKL (K : mK) (d : Nat) (x : Int64 × Int32 × Int32) : mK := (K.1, K.2.1, fun j => if j = d then x else K.2.2.1 j, K.2.2.2)
theorem mWd_loc {ad : Nat → Nat} {cs : ClassId × ClassId × ClassId} {K : mK} {rest : va_W} {d : Nat} (hd : d < 9) : (mWd ad cs K rest)[d + 5]? = some (ad (d + 5), .inr (2, [.long (K.2.2.1 d).1, .int (K.2.2.1 d).2.1, .int (K.2.2.1 d).2.2])) := by
  rcases (show d = 0 ∨ d = 1 ∨ d = 2 ∨ d = 3 ∨ d = 4 ∨ d = 5 ∨ d = 6 ∨ d = 7 ∨ d = 8 by omega) with rfl | rfl | rfl | rfl | rfl | rfl | rfl | rfl | rfl <;> rfl
theorem mWd_set {ad : Nat → Nat} {cs : ClassId × ClassId × ClassId} {K : mK} {rest : va_W} {d : Nat} {s : Int64} {n o : Int32} (hd : d < 9) : (mWd ad cs K rest).set (d + 5) (ad (d + 5), .inr (2, [.long s, .int n, .int o])) = mWd ad cs (mKL K d (s, n, o)) rest := by
  rcases (show d = 0 ∨ d = 1 ∨ d = 2 ∨ d = 3 ∨ d = 4 ∨ d = 5 ∨ d = 6 ∨ d = 7 ∨ d = 8 by omega) with rfl | rfl | rfl | rfl | rfl | rfl | rfl | rfl | rfl <;> simp [mWd, mKL, mLc]
def mB (r : Int32) : Prop := r = 0 ∨ r = 1
theorem mB_n {r : Int32} (h : mB r) : narrow .boolean (.int r) = .int r := by rcases h with rfl | rfl <;> decide
/-- answers of methods that only read -/
def mRi (ws : va_W) : Option Value → va_W → Prop := fun v ws' => ∃ r : Int32, v = some (.int r) ∧ ws' = ws
def mRb (ws : va_W) : Option Value → va_W → Prop := fun v ws' => ∃ r : Int32, mB r ∧ v = some (.int r) ∧ ws' = ws
def mRl (ws : va_W) : Option Value → va_W → Prop := fun v ws' => ∃ r : Int64, v = some (.long r) ∧ ws' = ws
def mRv (ws : va_W) : Option Value → va_W → Prop := fun v ws' => v = none ∧ ws' = ws
/-- .. and of those that may write, but no offset -/
def mWi (ad : Nat → Nat) (cs : ClassId × ClassId × ClassId) (K : mK) (rest : va_W) : Option Value → va_W → Prop := fun v ws' => ∃ (r : Int32) (K' : mK), K'.1 = K.1 ∧ v = some (.int r) ∧ ws' = mWd ad cs K' rest
def mWb (ad : Nat → Nat) (cs : ClassId × ClassId × ClassId) (K : mK) (rest : va_W) : Option Value → va_W → Prop := fun v ws' => ∃ (r : Int32) (K' : mK), mB r ∧ K'.1 = K.1 ∧ v = some (.int r) ∧ ws' = mWd ad cs K' rest
def mWl (ad : Nat → Nat) (cs : ClassId × ClassId × ClassId) (K : mK) (rest : va_W) : Option Value → va_W → Prop := fun v ws' => ∃ (r : Int64) (K' : mK), K'.1 = K.1 ∧ v = some (.long r) ∧ ws' = mWd ad cs K' rest
abbrev mNo : String → va_W → Prop := fun _ _ => False
def xI : String := "java/lang/IndexOutOfBoundsException"
def xA : String := "java/lang/IllegalArgumentException"
/-- it threw one of these, and nothing was written -/
def mTh (es : List String) (ws : va_W) : String → va_W → Prop := fun E ws' => E ∈ es ∧ ws' = ws
def mlok (lv : List (Nat × Option Value)) : List (Nat × Option Value) → Prop
  | [] => True
  | (i, v) :: r => lget lv i = v ∧ mlok lv r
theorem mlok_to {lv : List (Nat × Option Value)} : ∀ {lv' : List (Nat × Option Value)}, mlok lv lv' → ∀ q ∈ lv', q.2 = none ∨ lget lv q.1 = q.2
  | [], _, q, hq => nomatch hq
  | (i, v) :: r, h, q, hq => by
    rcases List.mem_cons.mp hq with rfl | h2
    · exact Or.inr h.1
    · exact mlok_to h.2 q h2
theorem r_loc {X : mC} {pc : Nat} {lv lv' : List (Nat × Option Value)} {st : List Value} {ws : va_W} {k n k' n' : Nat} (h : mlok lv lv') (hk : k ≤ k') (hn : n ≤ n') (kk : mV X pc lv' st ws k' n') : mV X pc lv st ws k n := r_wide hk hn (r_lv (mlok_to h) kk)
theorem nI_inc (j : Nat) : some (some (Value.int (nI j + Int32.ofInt 1))) = some (some (Value.int (nI (j + 1)))) := by rw [← nI_1 j]; rfl
theorem nI_inc' (j : Nat) : some (Value.int (nI j + Int32.ofInt 1)) = some (Value.int (nI (j + 1))) := by rw [← nI_1 j]; rfl
theorem mlt {X : Int32} {j N : Nat} (e : X = nI N) (hN : N < 2 ^ 31) (hj : j ≤ N) (h : ¬ X ≤ nI j) : j < N := by
  rcases Nat.lt_or_ge j N with q | q
  · exact q
  · exact absurd (show X ≤ nI j by rw [e]; exact nI_le q (by omega)) h
section MW
variable {X : mC} {own : String} {cc : ByteArray} {nL : Nat} {R : Room} {hh : List (Nat × Nat × Nat × Nat)} {tys : List (ClassId × FieldType)} {pc : Nat} {lv : List (Nat × Option Value)} {st : List Value} {ws : va_W} {k n : Nat}
variable {Φ : Option Value → va_W → Prop} {Ψ : String → va_W → Prop} {mc ms : Nat} {ret : Option FieldType}

theorem r_ixor {x y : Int32} (hX : mOK X own cc nL R hh tys) (hd : decode cc pc = .ok (.ixor, 1)) (kk : mV X (pc + 1) lv (.int (x ^^^ y) :: st) ws k n) : mV X pc lv (.int y :: .int x :: st) ws k n := by
  obtain ⟨p, l, e, R', s, m, args, below, meth, c, Q, D, tys', A⟩ := X
  obtain ⟨hx, hb, hml, hR, hown, hts, hK, hty, hlk, hA, hst, hlt, htab⟩ := hX
  exact fun H locs ls hP hD hS hl => lv_ixor hx hb hd (kk H locs ls hP hD hS hl)

theorem r_lxor {x y : Int64} (hX : mOK X own cc nL R hh tys) (hd : decode cc pc = .ok (.lxor, 1)) (kk : mV X (pc + 1) lv (.long (x ^^^ y) :: st) ws k n) : mV X pc lv (.long y :: .long x :: st) ws k n := by
  obtain ⟨p, l, e, R', s, m, args, below, meth, c, Q, D, tys', A⟩ := X
  obtain ⟨hx, hb, hml, hR, hown, hts, hK, hty, hlk, hA, hst, hlt, htab⟩ := hX
  exact fun H locs ls hP hD hS hl => lv_lxor hx hb hd (kk H locs ls hP hD hS hl)

theorem mMet {l : Launch} {y : MethodName} {ws : List Cond} {rm : Room} {Pc : Array Value → State → Prop} {Qc : Array Value → State → Outcome → State → Prop} {XC : String → State → State → Prop} {mc ms : Nat} {free : Addr → Prop} (h : vx_Met l y ws rm Pc Qc XC mc ms free) (hx : ∀ E st t, ¬ XC E st t) : Met l y ws rm Pc Qc mc ms free := by
  intro p e ha hc hk s m args below hf happ hP hK
  obtain ⟨n, o, h1, h2, h3, h4⟩ := h p e ha hc hk s m args below hf happ hP hK
  rcases h4 with h4 | ⟨q, rfl, E, ce, L, hx', -⟩
  · exact ⟨n, o, h1, h2, h3, h4⟩
  · exact absurd hx' (hx _ _ _)
theorem r_callN {host : String} {y : MethodName} {b : ByteArray} {nL2 idx cnt : Nat} {ret2 : Option FieldType} {rm : Room} {as rest : List Value} {Φ2 : Option Value → va_W → Prop} (hX : mOK X own cc nL R hh tys) (hc : mCt tys y b nL2 ret2 rm as ws Φ2 mNo) (hw : mWN own host idx y b nL2 ret2 cnt) (hst0 : st = as.reverse ++ rest) (hlen : as.length = cnt) (hro : (rest.map fun v => v.category).sum ≤ 8) (hrm : rm.frames + 1 ≤ R.frames ∧ 8 + (nL2 + 11) + rm.locals ≤ R.locals) (hce : k + rm.cells ≤ R.cells ∧ n + rm.slots ≤ R.slots) (hd : decode cc pc = .ok (.invokestatic idx, 3)) (kx : String → va_W → False → False) (kk : ∀ v ws', Φ2 v ws' → mV X (pc + 3) lv (mPush v rest) ws' (k + rm.cells) (n + rm.slots)) : mV X pc lv st ws k n := by
  obtain ⟨p, l, e, R', s, m, args, below, meth, c, Q, D, tys', A⟩ := X
  obtain ⟨hx, hb, hml, hR, hown, hts, hK, hty, hlk, hA, hst, hlt, htab⟩ := hX
  obtain ⟨w1, w2, w3, w4, w5, w6⟩ := hw
  subst hR
  intro H locs ls hP hD hS hl
  have hrun := va_runSN (own := own) (host := host) (index := idx) (cells := k) (slots := n) (locs := locs) (e := e) (below := below) (meth := meth) (rest := rest) (g := F0 m pc ls st) ⟨hx, hb, hml, hown, hts⟩ (mMet (hc l D A hlt) (fun E st t h => by obtain ⟨_, h, _⟩ := h; exact h)) ⟨⟨⟨rfl, rfl, hrm.1, hrm.2, mWords hts w4, List.mem_cons_self⟩, hts _ w4, hts _ w3, w5, mCount w6, hts _ w1⟩, hts _ w2, trivial⟩ ⟨mU_blind, fun U hU hW => ⟨rfl, mU_at hP hD hS hK hA hst hU hW⟩⟩ rfl hlen (hl.1.trans hml) hst0 (lv_room hro) hd hce
  intro T hT Y
  obtain ⟨v, st₀, t, T', L, h0, Y', hL, e1, e2, ⟨v', ws', hv, hp, hP', hD', hF⟩, stp⟩ := hrun T hT Y
  cases hv
  obtain ⟨-, -, k3⟩ := vx_keep h0 e1 hS (fun _ _ h => h) (fun _ h => h) hL hF
  obtain ⟨t2, a1, b1⟩ := kk v ws' hp T'.heap (locs ++ L) ls (by rw [e1]; exact hP') hD' k3 hl T' rfl Y'
  rw [← mPush_eq] at a1
  exact ⟨t2, stp t2 a1, b1⟩
end MW
theorem mTh_sub {es es2 : List String} {ws ws' : va_W} {E : String} (hs : ∀ E ∈ es2, E ∈ es) (h : mTh es2 ws E ws') : mTh es ws E ws' := ⟨hs E h.1, h.2⟩
theorem mS0 {es : List String} : ∀ E ∈ es, E ∈ es := fun _ h => h
theorem mS1 : ∀ E ∈ [xI], E ∈ [xI, xA] := fun E h => by rw [List.mem_singleton.mp h]; exact List.mem_cons_self
theorem mS2 : ∀ E ∈ [xA], E ∈ [xI, xA] := fun E h => by rw [List.mem_singleton.mp h]; exact List.mem_cons_of_mem _ List.mem_cons_self
end
section
/-! The class, its contracts (rows by a program of this repository). -/
theorem dJ9_floorDiv_f86c9_0 : decode cJ9_floorDiv_f86c9 0 = .ok (.lload_n 0, 1) := by decide +kernel
theorem dJ9_floorDiv_f86c9_1 : decode cJ9_floorDiv_f86c9 1 = .ok (.lload_n 2, 1) := by decide +kernel
theorem dJ9_floorDiv_f86c9_2 : decode cJ9_floorDiv_f86c9 2 = .ok (.ldiv, 1) := by decide +kernel
theorem dJ9_floorDiv_f86c9_3 : decode cJ9_floorDiv_f86c9 3 = .ok (.lstore 4, 2) := by decide +kernel
theorem dJ9_floorDiv_f86c9_5 : decode cJ9_floorDiv_f86c9 5 = .ok (.lload_n 0, 1) := by decide +kernel
theorem dJ9_floorDiv_f86c9_6 : decode cJ9_floorDiv_f86c9 6 = .ok (.lload_n 2, 1) := by decide +kernel
theorem dJ9_floorDiv_f86c9_7 : decode cJ9_floorDiv_f86c9 7 = .ok (.lxor, 1) := by decide +kernel
theorem dJ9_floorDiv_f86c9_8 : decode cJ9_floorDiv_f86c9 8 = .ok (.lconst 0, 1) := by decide +kernel
theorem dJ9_floorDiv_f86c9_9 : decode cJ9_floorDiv_f86c9 9 = .ok (.lcmp, 1) := by decide +kernel
theorem dJ9_floorDiv_f86c9_10 : decode cJ9_floorDiv_f86c9 10 = .ok (.ifCond .ge 17, 3) := by decide +kernel
theorem dJ9_floorDiv_f86c9_13 : decode cJ9_floorDiv_f86c9 13 = .ok (.lload 4, 2) := by decide +kernel
theorem dJ9_floorDiv_f86c9_15 : decode cJ9_floorDiv_f86c9 15 = .ok (.lload_n 2, 1) := by decide +kernel
theorem dJ9_floorDiv_f86c9_16 : decode cJ9_floorDiv_f86c9 16 = .ok (.lmul, 1) := by decide +kernel
theorem dJ9_floorDiv_f86c9_17 : decode cJ9_floorDiv_f86c9 17 = .ok (.lload_n 0, 1) := by decide +kernel
theorem dJ9_floorDiv_f86c9_18 : decode cJ9_floorDiv_f86c9 18 = .ok (.lcmp, 1) := by decide +kernel
theorem dJ9_floorDiv_f86c9_19 : decode cJ9_floorDiv_f86c9 19 = .ok (.ifCond .eq 8, 3) := by decide +kernel
theorem dJ9_floorDiv_f86c9_22 : decode cJ9_floorDiv_f86c9 22 = .ok (.lload 4, 2) := by decide +kernel
theorem dJ9_floorDiv_f86c9_24 : decode cJ9_floorDiv_f86c9 24 = .ok (.lconst 1, 1) := by decide +kernel
theorem dJ9_floorDiv_f86c9_25 : decode cJ9_floorDiv_f86c9 25 = .ok (.lsub, 1) := by decide +kernel
theorem dJ9_floorDiv_f86c9_26 : decode cJ9_floorDiv_f86c9 26 = .ok (.lreturn, 1) := by decide +kernel
theorem dJ9_floorDiv_f86c9_27 : decode cJ9_floorDiv_f86c9 27 = .ok (.lload 4, 2) := by decide +kernel
theorem dJ9_floorDiv_f86c9_29 : decode cJ9_floorDiv_f86c9 29 = .ok (.lreturn, 1) := by decide +kernel
set_option maxHeartbeats 4000000 in
set_option maxRecDepth 20000 in
theorem c_J9_floorDiv_f86c9 (tys : List (ClassId × FieldType)) (ws : va_W) (p0 : Int64) (p1 : Int64) (h0 : ¬ p1 = 0) : mCt tys yJ9_floorDiv_f86c9 cJ9_floorDiv_f86c9 6 (some .long) ⟨0, 0, 0, 0⟩ [.long p0, .long p1] ws (mRl ws) mNo := by
  refine mCt.of (by decide +kernel) (Nat.le_of_ble_eq_true rfl) (fun X hX hE => ?_)
  have hX : mOK X RJ9 cJ9_floorDiv_f86c9 6 ⟨0, 0, 0, 0⟩ [] tys := hX
  refine r_lload_n hX dJ9_floorDiv_f86c9_0 rfl rfl ?_
  refine r_lload_n hX dJ9_floorDiv_f86c9_1 rfl rfl ?_
  refine r_ldiv hX dJ9_floorDiv_f86c9_2 (by first | decide | assumption) ?_
  refine r_lstore hX dJ9_floorDiv_f86c9_3 (by decide) rfl ?_
  refine r_lload_n hX dJ9_floorDiv_f86c9_5 rfl rfl ?_
  refine r_lload_n hX dJ9_floorDiv_f86c9_6 rfl rfl ?_
  refine r_lxor hX dJ9_floorDiv_f86c9_7 ?_
  refine r_lconst (v := 0) hX dJ9_floorDiv_f86c9_8 (by decide) ?_
  refine r_lcmp hX dJ9_floorDiv_f86c9_9 ?_
  refine r_if_ge (tgt := 27) hX dJ9_floorDiv_f86c9_10 (by decide) (fun c1 => ?_) (fun c1 => ?_)
  · refine r_lload hX dJ9_floorDiv_f86c9_27 rfl ?_
    exact r_lret hX hE dJ9_floorDiv_f86c9_29 (Nat.le_of_ble_eq_true rfl) (Nat.le_of_ble_eq_true rfl) ⟨_, rfl, rfl⟩
  · refine r_lload hX dJ9_floorDiv_f86c9_13 rfl ?_
    refine r_lload_n hX dJ9_floorDiv_f86c9_15 rfl rfl ?_
    refine r_lmul hX dJ9_floorDiv_f86c9_16 ?_
    refine r_lload_n hX dJ9_floorDiv_f86c9_17 rfl rfl ?_
    refine r_lcmp hX dJ9_floorDiv_f86c9_18 ?_
    refine r_if_eq (tgt := 27) hX dJ9_floorDiv_f86c9_19 (by decide) (fun c2 => ?_) (fun c2 => ?_)
    · refine r_lload hX dJ9_floorDiv_f86c9_27 rfl ?_
      exact r_lret hX hE dJ9_floorDiv_f86c9_29 (Nat.le_of_ble_eq_true rfl) (Nat.le_of_ble_eq_true rfl) ⟨_, rfl, rfl⟩
    · refine r_lload hX dJ9_floorDiv_f86c9_22 rfl ?_
      refine r_lconst (v := 1) hX dJ9_floorDiv_f86c9_24 (by decide) ?_
      refine r_lsub hX dJ9_floorDiv_f86c9_25 ?_
      exact r_lret hX hE dJ9_floorDiv_f86c9_26 (Nat.le_of_ble_eq_true rfl) (Nat.le_of_ble_eq_true rfl) ⟨_, rfl, rfl⟩
theorem dJ9_floorMod_f86c9_0 : decode cJ9_floorMod_f86c9 0 = .ok (.lload_n 0, 1) := by decide +kernel
theorem dJ9_floorMod_f86c9_1 : decode cJ9_floorMod_f86c9 1 = .ok (.lload_n 2, 1) := by decide +kernel
theorem dJ9_floorMod_f86c9_2 : decode cJ9_floorMod_f86c9 2 = .ok (.lrem, 1) := by decide +kernel
theorem dJ9_floorMod_f86c9_3 : decode cJ9_floorMod_f86c9 3 = .ok (.lstore 4, 2) := by decide +kernel
theorem dJ9_floorMod_f86c9_5 : decode cJ9_floorMod_f86c9 5 = .ok (.lload_n 0, 1) := by decide +kernel
theorem dJ9_floorMod_f86c9_6 : decode cJ9_floorMod_f86c9 6 = .ok (.lload_n 2, 1) := by decide +kernel
theorem dJ9_floorMod_f86c9_7 : decode cJ9_floorMod_f86c9 7 = .ok (.lxor, 1) := by decide +kernel
theorem dJ9_floorMod_f86c9_8 : decode cJ9_floorMod_f86c9 8 = .ok (.lconst 0, 1) := by decide +kernel
theorem dJ9_floorMod_f86c9_9 : decode cJ9_floorMod_f86c9 9 = .ok (.lcmp, 1) := by decide +kernel
theorem dJ9_floorMod_f86c9_10 : decode cJ9_floorMod_f86c9 10 = .ok (.ifCond .ge 15, 3) := by decide +kernel
theorem dJ9_floorMod_f86c9_13 : decode cJ9_floorMod_f86c9 13 = .ok (.lload 4, 2) := by decide +kernel
theorem dJ9_floorMod_f86c9_15 : decode cJ9_floorMod_f86c9 15 = .ok (.lconst 0, 1) := by decide +kernel
theorem dJ9_floorMod_f86c9_16 : decode cJ9_floorMod_f86c9 16 = .ok (.lcmp, 1) := by decide +kernel
theorem dJ9_floorMod_f86c9_17 : decode cJ9_floorMod_f86c9 17 = .ok (.ifCond .eq 8, 3) := by decide +kernel
theorem dJ9_floorMod_f86c9_20 : decode cJ9_floorMod_f86c9 20 = .ok (.lload 4, 2) := by decide +kernel
theorem dJ9_floorMod_f86c9_22 : decode cJ9_floorMod_f86c9 22 = .ok (.lload_n 2, 1) := by decide +kernel
theorem dJ9_floorMod_f86c9_23 : decode cJ9_floorMod_f86c9 23 = .ok (.ladd, 1) := by decide +kernel
theorem dJ9_floorMod_f86c9_24 : decode cJ9_floorMod_f86c9 24 = .ok (.lreturn, 1) := by decide +kernel
theorem dJ9_floorMod_f86c9_25 : decode cJ9_floorMod_f86c9 25 = .ok (.lload 4, 2) := by decide +kernel
theorem dJ9_floorMod_f86c9_27 : decode cJ9_floorMod_f86c9 27 = .ok (.lreturn, 1) := by decide +kernel
set_option maxHeartbeats 4000000 in
set_option maxRecDepth 20000 in
theorem c_J9_floorMod_f86c9 (tys : List (ClassId × FieldType)) (ws : va_W) (p0 : Int64) (p1 : Int64) (h0 : ¬ p1 = 0) : mCt tys yJ9_floorMod_f86c9 cJ9_floorMod_f86c9 6 (some .long) ⟨0, 0, 0, 0⟩ [.long p0, .long p1] ws (mRl ws) mNo := by
  refine mCt.of (by decide +kernel) (Nat.le_of_ble_eq_true rfl) (fun X hX hE => ?_)
  have hX : mOK X RJ9 cJ9_floorMod_f86c9 6 ⟨0, 0, 0, 0⟩ [] tys := hX
  refine r_lload_n hX dJ9_floorMod_f86c9_0 rfl rfl ?_
  refine r_lload_n hX dJ9_floorMod_f86c9_1 rfl rfl ?_
  refine r_lrem hX dJ9_floorMod_f86c9_2 (by first | decide | assumption) ?_
  refine r_lstore hX dJ9_floorMod_f86c9_3 (by decide) rfl ?_
  refine r_lload_n hX dJ9_floorMod_f86c9_5 rfl rfl ?_
  refine r_lload_n hX dJ9_floorMod_f86c9_6 rfl rfl ?_
  refine r_lxor hX dJ9_floorMod_f86c9_7 ?_
  refine r_lconst (v := 0) hX dJ9_floorMod_f86c9_8 (by decide) ?_
  refine r_lcmp hX dJ9_floorMod_f86c9_9 ?_
  refine r_if_ge (tgt := 25) hX dJ9_floorMod_f86c9_10 (by decide) (fun c1 => ?_) (fun c1 => ?_)
  · refine r_lload hX dJ9_floorMod_f86c9_25 rfl ?_
    exact r_lret hX hE dJ9_floorMod_f86c9_27 (Nat.le_of_ble_eq_true rfl) (Nat.le_of_ble_eq_true rfl) ⟨_, rfl, rfl⟩
  · refine r_lload hX dJ9_floorMod_f86c9_13 rfl ?_
    refine r_lconst (v := 0) hX dJ9_floorMod_f86c9_15 (by decide) ?_
    refine r_lcmp hX dJ9_floorMod_f86c9_16 ?_
    refine r_if_eq (tgt := 25) hX dJ9_floorMod_f86c9_17 (by decide) (fun c2 => ?_) (fun c2 => ?_)
    · refine r_lload hX dJ9_floorMod_f86c9_25 rfl ?_
      exact r_lret hX hE dJ9_floorMod_f86c9_27 (Nat.le_of_ble_eq_true rfl) (Nat.le_of_ble_eq_true rfl) ⟨_, rfl, rfl⟩
    · refine r_lload hX dJ9_floorMod_f86c9_20 rfl ?_
      refine r_lload_n hX dJ9_floorMod_f86c9_22 rfl rfl ?_
      refine r_ladd hX dJ9_floorMod_f86c9_23 ?_
      exact r_lret hX hE dJ9_floorMod_f86c9_24 (Nat.le_of_ble_eq_true rfl) (Nat.le_of_ble_eq_true rfl) ⟨_, rfl, rfl⟩
theorem dJ9_floorMod_7cf53_0 : decode cJ9_floorMod_7cf53 0 = .ok (.iload_n 0, 1) := by decide +kernel
theorem dJ9_floorMod_7cf53_1 : decode cJ9_floorMod_7cf53 1 = .ok (.iload_n 1, 1) := by decide +kernel
theorem dJ9_floorMod_7cf53_2 : decode cJ9_floorMod_7cf53 2 = .ok (.irem, 1) := by decide +kernel
theorem dJ9_floorMod_7cf53_3 : decode cJ9_floorMod_7cf53 3 = .ok (.istore_n 2, 1) := by decide +kernel
theorem dJ9_floorMod_7cf53_4 : decode cJ9_floorMod_7cf53 4 = .ok (.iload_n 0, 1) := by decide +kernel
theorem dJ9_floorMod_7cf53_5 : decode cJ9_floorMod_7cf53 5 = .ok (.iload_n 1, 1) := by decide +kernel
theorem dJ9_floorMod_7cf53_6 : decode cJ9_floorMod_7cf53 6 = .ok (.ixor, 1) := by decide +kernel
theorem dJ9_floorMod_7cf53_7 : decode cJ9_floorMod_7cf53 7 = .ok (.ifCond .ge 11, 3) := by decide +kernel
theorem dJ9_floorMod_7cf53_10 : decode cJ9_floorMod_7cf53 10 = .ok (.iload_n 2, 1) := by decide +kernel
theorem dJ9_floorMod_7cf53_11 : decode cJ9_floorMod_7cf53 11 = .ok (.ifCond .eq 7, 3) := by decide +kernel
theorem dJ9_floorMod_7cf53_14 : decode cJ9_floorMod_7cf53 14 = .ok (.iload_n 2, 1) := by decide +kernel
theorem dJ9_floorMod_7cf53_15 : decode cJ9_floorMod_7cf53 15 = .ok (.iload_n 1, 1) := by decide +kernel
theorem dJ9_floorMod_7cf53_16 : decode cJ9_floorMod_7cf53 16 = .ok (.iadd, 1) := by decide +kernel
theorem dJ9_floorMod_7cf53_17 : decode cJ9_floorMod_7cf53 17 = .ok (.ireturn, 1) := by decide +kernel
theorem dJ9_floorMod_7cf53_18 : decode cJ9_floorMod_7cf53 18 = .ok (.iload_n 2, 1) := by decide +kernel
theorem dJ9_floorMod_7cf53_19 : decode cJ9_floorMod_7cf53 19 = .ok (.ireturn, 1) := by decide +kernel
set_option maxHeartbeats 4000000 in
set_option maxRecDepth 20000 in
theorem c_J9_floorMod_7cf53 (tys : List (ClassId × FieldType)) (ws : va_W) (p0 : Int32) (p1 : Int32) (h0 : ¬ p1 = 0) : mCt tys yJ9_floorMod_7cf53 cJ9_floorMod_7cf53 3 (some .int) ⟨0, 0, 0, 0⟩ [.int p0, .int p1] ws (mRi ws) mNo := by
  refine mCt.of (by decide +kernel) (Nat.le_of_ble_eq_true rfl) (fun X hX hE => ?_)
  have hX : mOK X RJ9 cJ9_floorMod_7cf53 3 ⟨0, 0, 0, 0⟩ [] tys := hX
  refine r_iload_n hX dJ9_floorMod_7cf53_0 rfl rfl ?_
  refine r_iload_n hX dJ9_floorMod_7cf53_1 rfl rfl ?_
  refine r_irem hX dJ9_floorMod_7cf53_2 (by first | decide | assumption) ?_
  refine r_istore_n hX dJ9_floorMod_7cf53_3 rfl (by decide) rfl ?_
  refine r_iload_n hX dJ9_floorMod_7cf53_4 rfl rfl ?_
  refine r_iload_n hX dJ9_floorMod_7cf53_5 rfl rfl ?_
  refine r_ixor hX dJ9_floorMod_7cf53_6 ?_
  refine r_if_ge (tgt := 18) hX dJ9_floorMod_7cf53_7 (by decide) (fun c1 => ?_) (fun c1 => ?_)
  · refine r_iload_n hX dJ9_floorMod_7cf53_18 rfl rfl ?_
    exact r_iret hX hE dJ9_floorMod_7cf53_19 (Nat.le_of_ble_eq_true rfl) (Nat.le_of_ble_eq_true rfl) ⟨_, rfl, rfl⟩
  · refine r_iload_n hX dJ9_floorMod_7cf53_10 rfl rfl ?_
    refine r_if_eq (tgt := 18) hX dJ9_floorMod_7cf53_11 (by decide) (fun c2 => ?_) (fun c2 => ?_)
    · refine r_iload_n hX dJ9_floorMod_7cf53_18 rfl rfl ?_
      exact r_iret hX hE dJ9_floorMod_7cf53_19 (Nat.le_of_ble_eq_true rfl) (Nat.le_of_ble_eq_true rfl) ⟨_, rfl, rfl⟩
    · refine r_iload_n hX dJ9_floorMod_7cf53_14 rfl rfl ?_
      refine r_iload_n hX dJ9_floorMod_7cf53_15 rfl rfl ?_
      refine r_iadd hX dJ9_floorMod_7cf53_16 ?_
      exact r_iret hX hE dJ9_floorMod_7cf53_17 (Nat.le_of_ble_eq_true rfl) (Nat.le_of_ble_eq_true rfl) ⟨_, rfl, rfl⟩
theorem dJ9_min_7cf53_0 : decode cJ9_min_7cf53 0 = .ok (.iload_n 0, 1) := by decide +kernel
theorem dJ9_min_7cf53_1 : decode cJ9_min_7cf53 1 = .ok (.iload_n 1, 1) := by decide +kernel
theorem dJ9_min_7cf53_2 : decode cJ9_min_7cf53 2 = .ok (.if_icmp .gt 7, 3) := by decide +kernel
theorem dJ9_min_7cf53_5 : decode cJ9_min_7cf53 5 = .ok (.iload_n 0, 1) := by decide +kernel
theorem dJ9_min_7cf53_6 : decode cJ9_min_7cf53 6 = .ok (.goto 4, 3) := by decide +kernel
theorem dJ9_min_7cf53_9 : decode cJ9_min_7cf53 9 = .ok (.iload_n 1, 1) := by decide +kernel
theorem dJ9_min_7cf53_10 : decode cJ9_min_7cf53 10 = .ok (.ireturn, 1) := by decide +kernel
set_option maxHeartbeats 4000000 in
set_option maxRecDepth 20000 in
theorem c_J9_min_7cf53 (tys : List (ClassId × FieldType)) (ws : va_W) (p0 : Int32) (p1 : Int32) : mCt tys yJ9_min_7cf53 cJ9_min_7cf53 2 (some .int) ⟨0, 0, 0, 0⟩ [.int p0, .int p1] ws (mRi ws) mNo := by
  refine mCt.of (by decide +kernel) (Nat.le_of_ble_eq_true rfl) (fun X hX hE => ?_)
  have hX : mOK X RJ9 cJ9_min_7cf53 2 ⟨0, 0, 0, 0⟩ [] tys := hX
  refine r_iload_n hX dJ9_min_7cf53_0 rfl rfl ?_
  refine r_iload_n hX dJ9_min_7cf53_1 rfl rfl ?_
  refine r_icmp_gt (tgt := 9) hX dJ9_min_7cf53_2 (by decide) (fun c1 => ?_) (fun c1 => ?_)
  · refine r_iload_n hX dJ9_min_7cf53_9 rfl rfl ?_
    exact r_iret hX hE dJ9_min_7cf53_10 (Nat.le_of_ble_eq_true rfl) (Nat.le_of_ble_eq_true rfl) ⟨_, rfl, rfl⟩
  · refine r_iload_n hX dJ9_min_7cf53_5 rfl rfl ?_
    refine r_goto (tgt := 10) hX dJ9_min_7cf53_6 (by decide) ?_
    exact r_iret hX hE dJ9_min_7cf53_10 (Nat.le_of_ble_eq_true rfl) (Nat.le_of_ble_eq_true rfl) ⟨_, rfl, rfl⟩
theorem dX2_isWithin_0 : decode cX2_isWithin 0 = .ok (.lload_n 0, 1) := by decide +kernel
theorem dX2_isWithin_1 : decode cX2_isWithin 1 = .ok (.lload_n 2, 1) := by decide +kernel
theorem dX2_isWithin_2 : decode cX2_isWithin 2 = .ok (.lcmp, 1) := by decide +kernel
theorem dX2_isWithin_3 : decode cX2_isWithin 3 = .ok (.ifCond .lt 14, 3) := by decide +kernel
theorem dX2_isWithin_6 : decode cX2_isWithin 6 = .ok (.lload_n 0, 1) := by decide +kernel
theorem dX2_isWithin_7 : decode cX2_isWithin 7 = .ok (.lload 4, 2) := by decide +kernel
theorem dX2_isWithin_9 : decode cX2_isWithin 9 = .ok (.lcmp, 1) := by decide +kernel
theorem dX2_isWithin_10 : decode cX2_isWithin 10 = .ok (.ifCond .gt 7, 3) := by decide +kernel
theorem dX2_isWithin_13 : decode cX2_isWithin 13 = .ok (.iconst 1, 1) := by decide +kernel
theorem dX2_isWithin_14 : decode cX2_isWithin 14 = .ok (.goto 4, 3) := by decide +kernel
theorem dX2_isWithin_17 : decode cX2_isWithin 17 = .ok (.iconst 0, 1) := by decide +kernel
theorem dX2_isWithin_18 : decode cX2_isWithin 18 = .ok (.ireturn, 1) := by decide +kernel
theorem lg_lt {x y : Int64} : lg_cmp x y < 0 ↔ x < y := by
  unfold lg_cmp
  by_cases h1 : y < x
  · have h2 : ¬ x < y := Int64.lt_asymm h1
    simp [h1, h2]
  · by_cases h2 : x = y
    · subst h2
      simp [h1]
    · have h3 : x < y := by
        rcases Int64.lt_or_le x y with h | h
        · exact h
        · exact absurd (Int64.le_antisymm (Int64.not_lt.mp h1) h) h2
      simp [h1, h2, h3]
theorem lg_gt {x y : Int64} : 0 < lg_cmp x y ↔ y < x := by
  unfold lg_cmp
  by_cases h1 : y < x
  · simp [h1]
  · by_cases h2 : x = y
    · simp [h2]
    · simp [h1, h2]
def f_isWithin (x a b : Int64) : Int32 := if a ≤ x ∧ x ≤ b then 1 else 0
theorem f_isWithin_B (x a b : Int64) : mB (f_isWithin x a b) := by unfold f_isWithin; split <;> simp [mB]
theorem c_X2_isWithin (tys : List (ClassId × FieldType)) (ws : va_W) (p0 p1 p2 : Int64) : mCt tys yX2_isWithin cX2_isWithin 6 (some .boolean) ⟨0, 0, 0, 0⟩ [.long p0, .long p1, .long p2] ws (fun v ws' => v = some (.int (f_isWithin p0 p1 p2)) ∧ ws' = ws) mNo := by
  refine mCt.of (by decide +kernel) (Nat.le_of_ble_eq_true rfl) (fun X hX hE => ?_)
  have hX : mOK X RX2 cX2_isWithin 6 ⟨0, 0, 0, 0⟩ [] tys := hX
  refine r_lload_n hX dX2_isWithin_0 rfl rfl ?_
  refine r_lload_n hX dX2_isWithin_1 rfl rfl ?_
  refine r_lcmp hX dX2_isWithin_2 ?_
  refine r_if_lt (tgt := 17) hX dX2_isWithin_3 (by decide) (fun c1 => ?_) (fun c1 => ?_)
  · refine r_iconst (v := 0) hX dX2_isWithin_17 (by decide) ?_
    refine r_zret hX hE dX2_isWithin_18 (by decide) (Nat.le_of_ble_eq_true rfl) (Nat.le_of_ble_eq_true rfl) ⟨?_, rfl⟩
    have h1 : ¬ p1 ≤ p0 := Int64.not_le.mpr (lg_lt.mp c1)
    simp [f_isWithin, h1]
  · have h1 : p1 ≤ p0 := Int64.not_lt.mp (fun h => c1 (lg_lt.mpr h))
    refine r_lload_n hX dX2_isWithin_6 rfl rfl ?_
    refine r_lload hX dX2_isWithin_7 rfl ?_
    refine r_lcmp hX dX2_isWithin_9 ?_
    refine r_if_gt (tgt := 17) hX dX2_isWithin_10 (by decide) (fun c2 => ?_) (fun c2 => ?_)
    · refine r_iconst (v := 0) hX dX2_isWithin_17 (by decide) ?_
      refine r_zret hX hE dX2_isWithin_18 (by decide) (Nat.le_of_ble_eq_true rfl) (Nat.le_of_ble_eq_true rfl) ⟨?_, rfl⟩
      have h2 : ¬ p0 ≤ p2 := Int64.not_le.mpr (lg_gt.mp c2)
      simp [f_isWithin, h2]
    · have h2 : p0 ≤ p2 := Int64.not_lt.mp (fun h => c2 (lg_gt.mpr h))
      refine r_iconst (v := 1) hX dX2_isWithin_13 (by decide) ?_
      refine r_goto (tgt := 18) hX dX2_isWithin_14 (by decide) ?_
      refine r_zret hX hE dX2_isWithin_18 (by decide) (Nat.le_of_ble_eq_true rfl) (Nat.le_of_ble_eq_true rfl) ⟨?_, rfl⟩
      simp [f_isWithin, h1, h2]
theorem dX2_requireOne_0 : decode cX2_requireOne 0 = .ok (.iload_n 0, 1) := by decide +kernel
theorem dX2_requireOne_1 : decode cX2_requireOne 1 = .ok (.ifCond .lt 8, 3) := by decide +kernel
theorem dX2_requireOne_4 : decode cX2_requireOne 4 = .ok (.iload_n 0, 1) := by decide +kernel
theorem dX2_requireOne_5 : decode cX2_requireOne 5 = .ok (.iload_n 1, 1) := by decide +kernel
theorem dX2_requireOne_6 : decode cX2_requireOne 6 = .ok (.if_icmp .lt 13, 3) := by decide +kernel
theorem dX2_requireOne_9 : decode cX2_requireOne 9 = .ok (.new 250, 3) := by decide +kernel
theorem dX2_requireOne_12 : decode cX2_requireOne 12 = .ok (.dup, 1) := by decide +kernel
theorem dX2_requireOne_13 : decode cX2_requireOne 13 = .ok (.ldc 252, 2) := by decide +kernel
theorem dX2_requireOne_15 : decode cX2_requireOne 15 = .ok (.invokespecial 254, 3) := by decide +kernel
theorem dX2_requireOne_18 : decode cX2_requireOne 18 = .ok (.athrow, 1) := by decide +kernel
theorem dX2_requireOne_19 : decode cX2_requireOne 19 = .ok (.return_, 1) := by decide +kernel
theorem kat_one : ∀ w ∈ vx_atS RX2 254 xI ["java/lang/RuntimeException", "java/lang/Exception"], w ∈ mW := by decide +kernel
theorem kgd_one : ∀ w ∈ Cond.classLink RX2 250 xI :: Cond.initialized xI :: vx_atS RX2 254 xI ["java/lang/RuntimeException", "java/lang/Exception"], vx_ot w = true := by decide +kernel
theorem kat_wit : ∀ w ∈ vx_atS RX2 261 xA ["java/lang/RuntimeException", "java/lang/Exception"], w ∈ mW := by decide +kernel
theorem kgd_wit : ∀ w ∈ Cond.classLink RX2 257 xA :: Cond.initialized xA :: vx_atS RX2 261 xA ["java/lang/RuntimeException", "java/lang/Exception"], vx_ot w = true := by decide +kernel
theorem c_X2_requireOne (tys : List (ClassId × FieldType)) (ws : va_W) (p0 : Int32) (N : Nat) (hN : N < 2 ^ 31) : mCt tys yX2_requireOne cX2_requireOne 2 none ⟨6, 1, 6, 82⟩ [.int p0, .int (nI N)] ws (fun v ws' => ∃ j, j < N ∧ p0 = nI j ∧ v = none ∧ ws' = ws) (fun E ws' => E = xI ∧ ws' = ws ∧ ¬ vp_in p0 N) := by
  refine mCt.of (by decide +kernel) (Nat.le_of_ble_eq_true rfl) (fun X hX hE => ?_)
  have hX : mOK X RX2 cX2_requireOne 2 ⟨6, 1, 6, 82⟩ [] tys := hX
  have thr : ∀ lv, ¬ vp_in p0 N → mV X 9 lv [] ws 0 0 := fun lv hn =>
    r_throw (cls := xI) (text := "there is no such one") (names := ["java/lang/RuntimeException", "java/lang/Exception"]) hX hE (by decide +kernel) (by decide +kernel) kl_X2_250 kt_java_lang_IndexOutOfBoundsException kat_one kgd_one (fun A U h => h.1) dX2_requireOne_9 dX2_requireOne_12 dX2_requireOne_13 dX2_requireOne_15 dX2_requireOne_18 (by decide) (by decide) (by decide) (by decide) (by decide) (by decide) ⟨rfl, rfl, hn⟩
  refine r_iload_n hX dX2_requireOne_0 rfl rfl ?_
  refine r_if_lt (tgt := 9) hX dX2_requireOne_1 (by decide) (fun c1 => ?_) (fun c1 => ?_)
  · exact thr _ (fun h => h (Or.inl c1))
  · refine r_iload_n hX dX2_requireOne_4 rfl rfl ?_
    refine r_iload_n hX dX2_requireOne_5 rfl rfl ?_
    obtain ⟨j, hj, rfl⟩ := nI_of c1
    refine r_icmp_lt (tgt := 19) hX dX2_requireOne_6 (by decide) (fun c2 => ?_) (fun c2 => ?_)
    · have hjN : j < N := (nI_ltI hj hN).mp c2
      exact r_vret hX hE dX2_requireOne_19 (Nat.le_of_ble_eq_true rfl) (Nat.le_of_ble_eq_true rfl) ⟨j, hjN, rfl, rfl, rfl⟩
    · exact thr _ (fun h => by
        have h2 := (vp_in_iff.mp h).2
        rw [nI_toInt hj] at h2
        exact c2 ((nI_ltI hj hN).mpr (by omega)))
theorem c_X2_requireOne_ok (tys : List (ClassId × FieldType)) (ws : va_W) (N : Nat) (hN : N < 2 ^ 31) (j : Nat) (hj : j < N) : mCt tys yX2_requireOne cX2_requireOne 2 none ⟨0, 0, 0, 0⟩ [.int (nI j), .int (nI N)] ws (fun v ws' => v = none ∧ ws' = ws) mNo := by
  refine mCt.of (by decide +kernel) (Nat.le_of_ble_eq_true rfl) (fun X hX hE => ?_)
  have hX : mOK X RX2 cX2_requireOne 2 ⟨0, 0, 0, 0⟩ [] tys := hX
  have hj2 : j < 2 ^ 31 := by omega
  refine r_iload_n hX dX2_requireOne_0 rfl rfl ?_
  refine r_if_lt (tgt := 9) hX dX2_requireOne_1 (by decide) (fun c1 => absurd c1 (nI_pos hj2)) (fun c1 => ?_)
  refine r_iload_n hX dX2_requireOne_4 rfl rfl ?_
  refine r_iload_n hX dX2_requireOne_5 rfl rfl ?_
  refine r_icmp_lt (tgt := 19) hX dX2_requireOne_6 (by decide) (fun c2 => ?_) (fun c2 => absurd ((nI_ltI hj2 hN).mpr hj) c2)
  exact r_vret hX hE dX2_requireOne_19 (Nat.le_of_ble_eq_true rfl) (Nat.le_of_ble_eq_true rfl) ⟨rfl, rfl⟩
theorem dX2_requireWithin_0 : decode cX2_requireWithin 0 = .ok (.iload_n 0, 1) := by decide +kernel
theorem dX2_requireWithin_1 : decode cX2_requireWithin 1 = .ok (.i2l, 1) := by decide +kernel
theorem dX2_requireWithin_2 : decode cX2_requireWithin 2 = .ok (.iload_n 1, 1) := by decide +kernel
theorem dX2_requireWithin_3 : decode cX2_requireWithin 3 = .ok (.i2l, 1) := by decide +kernel
theorem dX2_requireWithin_4 : decode cX2_requireWithin 4 = .ok (.iload_n 2, 1) := by decide +kernel
theorem dX2_requireWithin_5 : decode cX2_requireWithin 5 = .ok (.i2l, 1) := by decide +kernel
theorem dX2_requireWithin_6 : decode cX2_requireWithin 6 = .ok (.invokestatic 48, 3) := by decide +kernel
theorem dX2_requireWithin_9 : decode cX2_requireWithin 9 = .ok (.ifCond .ne 14, 3) := by decide +kernel
theorem dX2_requireWithin_12 : decode cX2_requireWithin 12 = .ok (.new 257, 3) := by decide +kernel
theorem dX2_requireWithin_15 : decode cX2_requireWithin 15 = .ok (.dup, 1) := by decide +kernel
theorem dX2_requireWithin_16 : decode cX2_requireWithin 16 = .ok (.ldc_w 259, 3) := by decide +kernel
theorem dX2_requireWithin_19 : decode cX2_requireWithin 19 = .ok (.invokespecial 261, 3) := by decide +kernel
theorem dX2_requireWithin_22 : decode cX2_requireWithin 22 = .ok (.athrow, 1) := by decide +kernel
theorem dX2_requireWithin_23 : decode cX2_requireWithin 23 = .ok (.return_, 1) := by decide +kernel
section MWT
variable {X : mC} {own : String} {cc : ByteArray} {nL : Nat} {R : Room} {tys : List (ClassId × FieldType)} {pc : Nat} {lv : List (Nat × Option Value)} {st : List Value} {ws : va_W} {k n : Nat} {Φ : Option Value → va_W → Prop} {Ψ : String → va_W → Prop} {mc ms : Nat} {ret : Option FieldType}
theorem r_throwW {cls text : String} {names : List String} {ik is ic : Nat} (hX : mOK X own cc nL R [] tys) (hE : mE X Φ Ψ ret mc ms) (hcls : Bundle.fit cls = true) (hnames : ∀ n ∈ names, Bundle.fit n = true) (hk0 : Cond.classLink own ik cls ∈ mW) (hini : Cond.initialized cls ∈ mW) (hat : ∀ w ∈ vx_atS own ic cls names, w ∈ mW)
    (hgood : ∀ w ∈ Cond.classLink own ik cls :: Cond.initialized cls :: vx_atS own ic cls names, vx_ot w = true) (hstr : ∀ (A : Nat → Prop) (U : State), mst A U → ∃ a, vk_R own is text a U)
    (d0 : decode cc pc = .ok (.new ik, 3)) (d3 : decode cc (pc + 3) = .ok (.dup, 1)) (d4 : decode cc (pc + 4) = .ok (.ldc_w is, 3)) (d7 : decode cc (pc + 7) = .ok (.invokespecial ic, 3)) (d10 : decode cc (pc + 10) = .ok (.athrow, 1))
    (hf : names.length + 3 < R.frames) (hlo : (st.map fun v => v.category).sum + (13 * (names.length + 1) + 43) ≤ R.locals) (hRc : k + 1 ≤ R.cells) (hRs : n + 6 ≤ R.slots) (hk : k + 1 ≤ mc) (hn : n + 6 ≤ ms) (hΨ : Ψ cls ws) : mV X pc lv st ws k n := by
  obtain ⟨p, l, e, R', s, m, args, below, meth, c, Q, D, tys', A⟩ := X
  obtain ⟨hx, hb, hml, hR, hown, hts, hK, hty, hlk, hA, hst, hlt, htab⟩ := hX
  obtain ⟨hr, rfl⟩ := hE
  subst hR
  obtain ⟨sa, hsa⟩ := hstr A s hst
  refine fun H locs ls hP hD hS hl => vx_throwSW hx hb hlt (A := A) hown hcls hnames (hts _ hk0) (hts _ hini) hsa (fun w hw => hts w (hat w hw)) hgood hst.2.2.1 hst.2.2.2 hS hl.1 d0 d3 d4 d7 d10 (by rw [htab]; exact fun x h => nomatch h) hf hlo hRc hRs hlk (fun t _ hz hq => ⟨ws, hΨ, fun i q h => ?_, hD, ?_⟩) hS.2.2 hk hn
  · exact (hP i q h).kept (hq q.1 (hP i q h).lt)
  · exact ⟨Nat.le_trans hS.1 hz, fun q h1 h2 => (hq q (Nat.lt_of_lt_of_le h1 hS.1)).trans (hS.2.1 q h1 h2)⟩
end MWT
theorem i2l_le {x y : Int32} : x.toInt64 ≤ y.toInt64 ↔ x ≤ y := by
  rw [Int64.le_iff_toInt_le, Int32.le_iff_toInt_le, Int32.toInt_toInt64, Int32.toInt_toInt64]
theorem c_X2_requireWithin (tys : List (ClassId × FieldType)) (ws : va_W) (p0 p1 p2 : Int32) : mCt tys yX2_requireWithin cX2_requireWithin 3 none ⟨6, 1, 6, 82⟩ [.int p0, .int p1, .int p2] ws (fun v ws' => (p1 ≤ p0 ∧ p0 ≤ p2) ∧ v = none ∧ ws' = ws) (fun E ws' => E = xA ∧ ws' = ws ∧ ¬ (p1 ≤ p0 ∧ p0 ≤ p2)) := by
  refine mCt.of (by decide +kernel) (Nat.le_of_ble_eq_true rfl) (fun X hX hE => ?_)
  have hX : mOK X RX2 cX2_requireWithin 3 ⟨6, 1, 6, 82⟩ [] tys := hX
  refine r_iload_n hX dX2_requireWithin_0 rfl rfl ?_
  refine r_i2l hX dX2_requireWithin_1 ?_
  refine r_iload_n hX dX2_requireWithin_2 rfl rfl ?_
  refine r_i2l hX dX2_requireWithin_3 ?_
  refine r_iload_n hX dX2_requireWithin_4 rfl rfl ?_
  refine r_i2l hX dX2_requireWithin_5 ?_
  refine r_callS hX (c_X2_isWithin _ _ _ _ _) ks_X2_48 rfl rfl (Nat.le_of_ble_eq_true rfl) ⟨(Nat.le_of_ble_eq_true rfl), (Nat.le_of_ble_eq_true rfl)⟩ ⟨(Nat.le_of_ble_eq_true rfl), (Nat.le_of_ble_eq_true rfl)⟩ dX2_requireWithin_6 (fun _ _ z => False.elim z) (fun v9 ws9 h1 => ?_)
  obtain ⟨rfl, hw9⟩ := h1
  subst ws9
  dsimp only [mPush]
  refine r_if_ne (tgt := 23) hX dX2_requireWithin_9 (by decide) (fun c1 => ?_) (fun c1 => ?_)
  · refine r_vret hX hE dX2_requireWithin_23 (Nat.le_of_ble_eq_true rfl) (Nat.le_of_ble_eq_true rfl) ⟨?_, rfl, rfl⟩
    simp only [f_isWithin, i2l_le] at c1
    by_cases h : p1 ≤ p0 ∧ p0 ≤ p2
    · exact h
    · exact absurd (if_neg h) c1
  · refine r_throwW (cls := xA) (text := "a number is not within its limits") (names := ["java/lang/RuntimeException", "java/lang/Exception"]) hX hE (by decide +kernel) (by decide +kernel) kl_X2_257 kt_java_lang_IllegalArgumentException kat_wit kgd_wit (fun A U h => h.2.1) dX2_requireWithin_12 dX2_requireWithin_15 dX2_requireWithin_16 dX2_requireWithin_19 dX2_requireWithin_22 (by decide) (by decide) (by decide) (by decide) (by decide) (by decide) ⟨rfl, rfl, fun h => c1 ?_⟩
    simp only [f_isWithin, i2l_le]
    rw [if_pos h]
    decide
theorem dX2_at_0 : decode cX2_at 0 = .ok (.iload_n 1, 1) := by decide +kernel
theorem dX2_at_1 : decode cX2_at 1 = .ok (.ifCond .lt 15, 3) := by decide +kernel
theorem dX2_at_4 : decode cX2_at 4 = .ok (.iload_n 1, 1) := by decide +kernel
theorem dX2_at_5 : decode cX2_at 5 = .ok (.aload_n 0, 1) := by decide +kernel
theorem dX2_at_6 : decode cX2_at 6 = .ok (.arraylength, 1) := by decide +kernel
theorem dX2_at_7 : decode cX2_at 7 = .ok (.if_icmp .ge 9, 3) := by decide +kernel
theorem dX2_at_10 : decode cX2_at 10 = .ok (.aload_n 0, 1) := by decide +kernel
theorem dX2_at_11 : decode cX2_at 11 = .ok (.iload_n 1, 1) := by decide +kernel
theorem dX2_at_12 : decode cX2_at 12 = .ok (.aaload, 1) := by decide +kernel
theorem dX2_at_13 : decode cX2_at 13 = .ok (.ifnonnull 13, 3) := by decide +kernel
theorem dX2_at_16 : decode cX2_at 16 = .ok (.new 250, 3) := by decide +kernel
theorem dX2_at_19 : decode cX2_at 19 = .ok (.dup, 1) := by decide +kernel
theorem dX2_at_20 : decode cX2_at 20 = .ok (.ldc 252, 2) := by decide +kernel
theorem dX2_at_22 : decode cX2_at 22 = .ok (.invokespecial 254, 3) := by decide +kernel
theorem dX2_at_25 : decode cX2_at 25 = .ok (.athrow, 1) := by decide +kernel
theorem dX2_at_26 : decode cX2_at 26 = .ok (.aload_n 0, 1) := by decide +kernel
theorem dX2_at_27 : decode cX2_at 27 = .ok (.iload_n 1, 1) := by decide +kernel
theorem dX2_at_28 : decode cX2_at 28 = .ok (.aaload, 1) := by decide +kernel
theorem dX2_at_29 : decode cX2_at 29 = .ok (.areturn, 1) := by decide +kernel
theorem c_X2_at (ad : Nat → Nat) (cs : ClassId × ClassId × ClassId) (ws : va_W) (q0 a n0 b0 : Nat) (he : ws[q0]? = some (a, .inl (cs.2.2, n0, .inr (.inr (.inr (.inr (fun j => some (ad (j + b0 + 5))))))))) (hN : n0 < 2 ^ 31) (p1 : Int32) : mCt (mTy cs) yX2_at cX2_at 2 (some (.object "Momentdesk$Local")) ⟨6, 1, 6, 82⟩ [.ref a, .int p1] ws (fun v ws' => ∃ j, j < n0 ∧ p1 = nI j ∧ v = some (.ref (ad (j + b0 + 5))) ∧ ws' = ws) (fun E ws' => E = xI ∧ ws' = ws ∧ ¬ vp_in p1 n0) := by
  refine mCt.of (by decide +kernel) (Nat.le_of_ble_eq_true rfl) (fun X hX hE => ?_)
  have hX : mOK X RX2 cX2_at 2 ⟨6, 1, 6, 82⟩ [] (mTy cs) := hX
  have thr : ∀ lv, ¬ vp_in p1 n0 → mV X 16 lv [] ws 0 0 := fun lv hn =>
    r_throw (cls := xI) (text := "there is no such one") (names := ["java/lang/RuntimeException", "java/lang/Exception"]) hX hE (by decide +kernel) (by decide +kernel) kl_X2_250 kt_java_lang_IndexOutOfBoundsException kat_one kgd_one (fun A U h => h.1) dX2_at_16 dX2_at_19 dX2_at_20 dX2_at_22 dX2_at_25 (by decide) (by decide) (by decide) (by decide) (by decide) (by decide) ⟨rfl, rfl, hn⟩
  refine r_iload_n hX dX2_at_0 rfl rfl ?_
  refine r_if_lt (tgt := 16) hX dX2_at_1 (by decide) (fun c1 => ?_) (fun c1 => ?_)
  · exact thr _ (fun h => h (Or.inl c1))
  · refine r_iload_n hX dX2_at_4 rfl rfl ?_
    refine r_aload_n hX dX2_at_5 rfl rfl ?_
    refine r_alen (v := nI n0) hX q0 2 he rfl rfl dX2_at_6 ?_
    obtain ⟨j, hj, rfl⟩ := nI_of c1
    refine r_icmp_ge (tgt := 16) hX dX2_at_7 (by decide) (fun c2 => ?_) (fun c2 => ?_)
    · exact thr _ (fun h => by
        have h2 := (vp_in_iff.mp h).2
        rw [nI_toInt hj] at h2
        have h3 := (nI_leI hN hj).mp c2
        omega)
    · have hjN : j < n0 := by
        rcases Nat.lt_or_ge j n0 with h | h
        · exact h
        · exact absurd ((nI_leI hN hj).mpr h) c2
      have hin := vp_in_nI hjN hN
      refine r_aload_n hX dX2_at_10 rfl rfl ?_
      refine r_iload_n hX dX2_at_11 rfl rfl ?_
      refine r_aald hX q0 2 he rfl hin dX2_at_12 ?_
      refine r_ifnonnull (x := ad ((nI j).toNatClampNeg + b0 + 5)) (tgt := 26) hX dX2_at_13 (by decide) ?_
      refine r_aload_n hX dX2_at_26 rfl rfl ?_
      refine r_iload_n hX dX2_at_27 rfl rfl ?_
      refine r_aald hX q0 2 he rfl hin dX2_at_28 ?_
      refine r_aret (v := .ref (ad ((nI j).toNatClampNeg + b0 + 5))) hX hE dX2_at_29 (Or.inl ⟨_, rfl⟩) (Or.inr ⟨_, rfl⟩) (Nat.le_of_ble_eq_true rfl) (Nat.le_of_ble_eq_true rfl) ⟨j, hjN, rfl, ?_, rfl⟩
      rw [nI_clamp hj]
theorem c_X2_at_ok (ad : Nat → Nat) (cs : ClassId × ClassId × ClassId) (ws : va_W) (q0 a n0 b0 : Nat) (he : ws[q0]? = some (a, .inl (cs.2.2, n0, .inr (.inr (.inr (.inr (fun j => some (ad (j + b0 + 5))))))))) (hN : n0 < 2 ^ 31) (j : Nat) (hjN : j < n0) : mCt (mTy cs) yX2_at cX2_at 2 (some (.object "Momentdesk$Local")) ⟨0, 0, 0, 0⟩ [.ref a, .int (nI j)] ws (fun v ws' => v = some (.ref (ad (j + b0 + 5))) ∧ ws' = ws) mNo := by
  refine mCt.of (by decide +kernel) (Nat.le_of_ble_eq_true rfl) (fun X hX hE => ?_)
  have hX : mOK X RX2 cX2_at 2 ⟨0, 0, 0, 0⟩ [] (mTy cs) := hX
  have hj : j < 2 ^ 31 := by omega
  have hin := vp_in_nI hjN hN
  refine r_iload_n hX dX2_at_0 rfl rfl ?_
  refine r_if_lt (tgt := 16) hX dX2_at_1 (by decide) (fun c1 => absurd c1 (nI_pos hj)) (fun c1 => ?_)
  refine r_iload_n hX dX2_at_4 rfl rfl ?_
  refine r_aload_n hX dX2_at_5 rfl rfl ?_
  refine r_alen (v := nI n0) hX q0 2 he rfl rfl dX2_at_6 ?_
  refine r_icmp_ge (tgt := 16) hX dX2_at_7 (by decide) (fun c2 => absurd ((nI_leI hN hj).mp c2) (by omega)) (fun c2 => ?_)
  refine r_aload_n hX dX2_at_10 rfl rfl ?_
  refine r_iload_n hX dX2_at_11 rfl rfl ?_
  refine r_aald hX q0 2 he rfl hin dX2_at_12 ?_
  refine r_ifnonnull (x := ad ((nI j).toNatClampNeg + b0 + 5)) (tgt := 26) hX dX2_at_13 (by decide) ?_
  refine r_aload_n hX dX2_at_26 rfl rfl ?_
  refine r_iload_n hX dX2_at_27 rfl rfl ?_
  refine r_aald hX q0 2 he rfl hin dX2_at_28 ?_
  refine r_aret (v := .ref (ad ((nI j).toNatClampNeg + b0 + 5))) hX hE dX2_at_29 (Or.inl ⟨_, rfl⟩) (Or.inr ⟨_, rfl⟩) (Nat.le_of_ble_eq_true rfl) (Nat.le_of_ble_eq_true rfl) ⟨?_, rfl⟩
  rw [nI_clamp hj]
theorem c_X2_requireWithin_ok (tys : List (ClassId × FieldType)) (ws : va_W) (p0 p1 p2 : Int32) (h : p1 ≤ p0 ∧ p0 ≤ p2) : mCt tys yX2_requireWithin cX2_requireWithin 3 none ⟨1, 0, 0, 25⟩ [.int p0, .int p1, .int p2] ws (fun v ws' => v = none ∧ ws' = ws) mNo := by
  refine mCt.of (by decide +kernel) (Nat.le_of_ble_eq_true rfl) (fun X hX hE => ?_)
  have hX : mOK X RX2 cX2_requireWithin 3 ⟨1, 0, 0, 25⟩ [] tys := hX
  refine r_iload_n hX dX2_requireWithin_0 rfl rfl ?_
  refine r_i2l hX dX2_requireWithin_1 ?_
  refine r_iload_n hX dX2_requireWithin_2 rfl rfl ?_
  refine r_i2l hX dX2_requireWithin_3 ?_
  refine r_iload_n hX dX2_requireWithin_4 rfl rfl ?_
  refine r_i2l hX dX2_requireWithin_5 ?_
  refine r_callS hX (c_X2_isWithin _ _ _ _ _) ks_X2_48 rfl rfl (Nat.le_of_ble_eq_true rfl) ⟨(Nat.le_of_ble_eq_true rfl), (Nat.le_of_ble_eq_true rfl)⟩ ⟨(Nat.le_of_ble_eq_true rfl), (Nat.le_of_ble_eq_true rfl)⟩ dX2_requireWithin_6 (fun _ _ z => False.elim z) (fun v9 ws9 h1 => ?_)
  obtain ⟨rfl, hw9⟩ := h1
  subst ws9
  dsimp only [mPush]
  refine r_if_ne (tgt := 23) hX dX2_requireWithin_9 (by decide) (fun c1 => ?_) (fun c1 => absurd ?_ c1)
  · exact r_vret hX hE dX2_requireWithin_23 (Nat.le_of_ble_eq_true rfl) (Nat.le_of_ble_eq_true rfl) ⟨rfl, rfl⟩
  · simp only [f_isWithin, i2l_le]
    rw [if_pos h]
    decide
theorem mbn {j : Nat} (hj : j < 4) : (0 : Int32) ≤ nI j ∧ nI j ≤ 3 := ⟨nI_pos' (by omega), (nI_leI (a := j) (b := 3) (by omega) (by omega)).mpr (by omega)⟩
theorem dX0_isLeap_0 : decode cX0_isLeap 0 = .ok (.iload_n 0, 1) := by decide +kernel
theorem dX0_isLeap_1 : decode cX0_isLeap 1 = .ok (.iconst 4, 1) := by decide +kernel
theorem dX0_isLeap_2 : decode cX0_isLeap 2 = .ok (.irem, 1) := by decide +kernel
theorem dX0_isLeap_3 : decode cX0_isLeap 3 = .ok (.ifCond .ne 22, 3) := by decide +kernel
theorem dX0_isLeap_6 : decode cX0_isLeap 6 = .ok (.iload_n 0, 1) := by decide +kernel
theorem dX0_isLeap_7 : decode cX0_isLeap 7 = .ok (.bipush 100, 2) := by decide +kernel
theorem dX0_isLeap_9 : decode cX0_isLeap 9 = .ok (.irem, 1) := by decide +kernel
theorem dX0_isLeap_10 : decode cX0_isLeap 10 = .ok (.ifCond .ne 11, 3) := by decide +kernel
theorem dX0_isLeap_13 : decode cX0_isLeap 13 = .ok (.iload_n 0, 1) := by decide +kernel
theorem dX0_isLeap_14 : decode cX0_isLeap 14 = .ok (.sipush 400, 3) := by decide +kernel
theorem dX0_isLeap_17 : decode cX0_isLeap 17 = .ok (.irem, 1) := by decide +kernel
theorem dX0_isLeap_18 : decode cX0_isLeap 18 = .ok (.ifCond .ne 7, 3) := by decide +kernel
theorem dX0_isLeap_21 : decode cX0_isLeap 21 = .ok (.iconst 1, 1) := by decide +kernel
theorem dX0_isLeap_22 : decode cX0_isLeap 22 = .ok (.goto 4, 3) := by decide +kernel
theorem dX0_isLeap_25 : decode cX0_isLeap 25 = .ok (.iconst 0, 1) := by decide +kernel
theorem dX0_isLeap_26 : decode cX0_isLeap 26 = .ok (.ireturn, 1) := by decide +kernel
set_option maxHeartbeats 4000000 in
set_option maxRecDepth 20000 in
theorem c_X0_isLeap (tys : List (ClassId × FieldType)) (ws : va_W) (p0 : Int32) : mCt tys yX0_isLeap cX0_isLeap 1 (some .boolean) ⟨0, 0, 0, 0⟩ [.int p0] ws (mRb ws) mNo := by
  refine mCt.of (by decide +kernel) (Nat.le_of_ble_eq_true rfl) (fun X hX hE => ?_)
  have hX : mOK X RX0 cX0_isLeap 1 ⟨0, 0, 0, 0⟩ [] tys := hX
  refine r_iload_n hX dX0_isLeap_0 rfl rfl ?_
  refine r_iconst (v := 4) hX dX0_isLeap_1 (by decide) ?_
  refine r_irem hX dX0_isLeap_2 (by first | decide | assumption) ?_
  refine r_if_ne (tgt := 25) hX dX0_isLeap_3 (by decide) (fun c1 => ?_) (fun c1 => ?_)
  · refine r_iconst (v := 0) hX dX0_isLeap_25 (by decide) ?_
    exact r_zret hX hE dX0_isLeap_26 (mB_n (Or.inl rfl)) (Nat.le_of_ble_eq_true rfl) (Nat.le_of_ble_eq_true rfl) ⟨_, (Or.inl rfl), rfl, rfl⟩
  · refine r_iload_n hX dX0_isLeap_6 rfl rfl ?_
    refine r_bipush (v := 100) hX dX0_isLeap_7 (by decide) ?_
    refine r_irem hX dX0_isLeap_9 (by first | decide | assumption) ?_
    refine r_if_ne (tgt := 21) hX dX0_isLeap_10 (by decide) (fun c2 => ?_) (fun c2 => ?_)
    · refine r_iconst (v := 1) hX dX0_isLeap_21 (by decide) ?_
      refine r_goto (tgt := 26) hX dX0_isLeap_22 (by decide) ?_
      exact r_zret hX hE dX0_isLeap_26 (mB_n (Or.inr rfl)) (Nat.le_of_ble_eq_true rfl) (Nat.le_of_ble_eq_true rfl) ⟨_, (Or.inr rfl), rfl, rfl⟩
    · refine r_iload_n hX dX0_isLeap_13 rfl rfl ?_
      refine r_sipush (v := 400) hX dX0_isLeap_14 (by decide) ?_
      refine r_irem hX dX0_isLeap_17 (by first | decide | assumption) ?_
      refine r_if_ne (tgt := 25) hX dX0_isLeap_18 (by decide) (fun c3 => ?_) (fun c3 => ?_)
      · refine r_iconst (v := 0) hX dX0_isLeap_25 (by decide) ?_
        exact r_zret hX hE dX0_isLeap_26 (mB_n (Or.inl rfl)) (Nat.le_of_ble_eq_true rfl) (Nat.le_of_ble_eq_true rfl) ⟨_, (Or.inl rfl), rfl, rfl⟩
      · refine r_iconst (v := 1) hX dX0_isLeap_21 (by decide) ?_
        refine r_goto (tgt := 26) hX dX0_isLeap_22 (by decide) ?_
        exact r_zret hX hE dX0_isLeap_26 (mB_n (Or.inr rfl)) (Nat.le_of_ble_eq_true rfl) (Nat.le_of_ble_eq_true rfl) ⟨_, (Or.inr rfl), rfl, rfl⟩
theorem dX0_lengthOfYear_0 : decode cX0_lengthOfYear 0 = .ok (.iload_n 0, 1) := by decide +kernel
theorem dX0_lengthOfYear_1 : decode cX0_lengthOfYear 1 = .ok (.invokestatic 9, 3) := by decide +kernel
theorem dX0_lengthOfYear_4 : decode cX0_lengthOfYear 4 = .ok (.ifCond .eq 9, 3) := by decide +kernel
theorem dX0_lengthOfYear_7 : decode cX0_lengthOfYear 7 = .ok (.sipush 366, 3) := by decide +kernel
theorem dX0_lengthOfYear_10 : decode cX0_lengthOfYear 10 = .ok (.goto 6, 3) := by decide +kernel
theorem dX0_lengthOfYear_13 : decode cX0_lengthOfYear 13 = .ok (.sipush 365, 3) := by decide +kernel
theorem dX0_lengthOfYear_16 : decode cX0_lengthOfYear 16 = .ok (.ireturn, 1) := by decide +kernel
set_option maxHeartbeats 4000000 in
set_option maxRecDepth 20000 in
theorem c_X0_lengthOfYear (tys : List (ClassId × FieldType)) (ws : va_W) (p0 : Int32) : mCt tys yX0_lengthOfYear cX0_lengthOfYear 1 (some .int) ⟨1, 0, 0, 20⟩ [.int p0] ws (mRi ws) mNo := by
  refine mCt.of (by decide +kernel) (Nat.le_of_ble_eq_true rfl) (fun X hX hE => ?_)
  have hX : mOK X RX0 cX0_lengthOfYear 1 ⟨1, 0, 0, 20⟩ [] tys := hX
  refine r_iload_n hX dX0_lengthOfYear_0 rfl rfl ?_
  refine r_callS hX (c_X0_isLeap _ _ _) ks_X0_9 rfl rfl (Nat.le_of_ble_eq_true rfl) ⟨(Nat.le_of_ble_eq_true rfl), (Nat.le_of_ble_eq_true rfl)⟩ ⟨(Nat.le_of_ble_eq_true rfl), (Nat.le_of_ble_eq_true rfl)⟩ dX0_lengthOfYear_1 (fun _ _ z => False.elim z) (fun v9 ws9 h1 => ?_)
  obtain ⟨r3, br3, rfl, hw9⟩ := h1
  subst ws9
  dsimp only [mPush]
  refine r_if_eq (tgt := 13) hX dX0_lengthOfYear_4 (by decide) (fun c4 => ?_) (fun c4 => ?_)
  · refine r_sipush (v := 365) hX dX0_lengthOfYear_13 (by decide) ?_
    exact r_iret hX hE dX0_lengthOfYear_16 (Nat.le_of_ble_eq_true rfl) (Nat.le_of_ble_eq_true rfl) ⟨_, rfl, rfl⟩
  · refine r_sipush (v := 366) hX dX0_lengthOfYear_7 (by decide) ?_
    refine r_goto (tgt := 16) hX dX0_lengthOfYear_10 (by decide) ?_
    exact r_iret hX hE dX0_lengthOfYear_16 (Nat.le_of_ble_eq_true rfl) (Nat.le_of_ble_eq_true rfl) ⟨_, rfl, rfl⟩
theorem dX0_lengthOfMonth_0 : decode cX0_lengthOfMonth 0 = .ok (.iload_n 1, 1) := by decide +kernel
theorem dX0_lengthOfMonth_1 : decode cX0_lengthOfMonth 1 = .ok (.tableswitch 73 2 11 #[55, 73, 70, 73, 70, 73, 73, 70, 73, 70], 55) := by decide +kernel
theorem dX0_lengthOfMonth_56 : decode cX0_lengthOfMonth 56 = .ok (.iload_n 0, 1) := by decide +kernel
theorem dX0_lengthOfMonth_57 : decode cX0_lengthOfMonth 57 = .ok (.invokestatic 9, 3) := by decide +kernel
theorem dX0_lengthOfMonth_60 : decode cX0_lengthOfMonth 60 = .ok (.ifCond .eq 8, 3) := by decide +kernel
theorem dX0_lengthOfMonth_63 : decode cX0_lengthOfMonth 63 = .ok (.bipush 29, 2) := by decide +kernel
theorem dX0_lengthOfMonth_65 : decode cX0_lengthOfMonth 65 = .ok (.goto 5, 3) := by decide +kernel
theorem dX0_lengthOfMonth_68 : decode cX0_lengthOfMonth 68 = .ok (.bipush 28, 2) := by decide +kernel
theorem dX0_lengthOfMonth_70 : decode cX0_lengthOfMonth 70 = .ok (.ireturn, 1) := by decide +kernel
theorem dX0_lengthOfMonth_71 : decode cX0_lengthOfMonth 71 = .ok (.bipush 30, 2) := by decide +kernel
theorem dX0_lengthOfMonth_73 : decode cX0_lengthOfMonth 73 = .ok (.ireturn, 1) := by decide +kernel
theorem dX0_lengthOfMonth_74 : decode cX0_lengthOfMonth 74 = .ok (.bipush 31, 2) := by decide +kernel
theorem dX0_lengthOfMonth_76 : decode cX0_lengthOfMonth 76 = .ok (.ireturn, 1) := by decide +kernel
set_option maxHeartbeats 4000000 in
set_option maxRecDepth 20000 in
theorem c_X0_lengthOfMonth (tys : List (ClassId × FieldType)) (ws : va_W) (p0 : Int32) (p1 : Int32) : mCt tys yX0_lengthOfMonth cX0_lengthOfMonth 2 (some .int) ⟨1, 0, 0, 20⟩ [.int p0, .int p1] ws (mRi ws) mNo := by
  refine mCt.of (by decide +kernel) (Nat.le_of_ble_eq_true rfl) (fun X hX hE => ?_)
  have hX : mOK X RX0 cX0_lengthOfMonth 2 ⟨1, 0, 0, 20⟩ [] tys := hX
  refine r_iload_n hX dX0_lengthOfMonth_0 rfl rfl ?_
  by_cases s1 : p1.toInt = 2
  · refine r_tableIn (off := 55) (tgt := 56) hX dX0_lengthOfMonth_1 (by omega) (by omega) (by rw [s1]; rfl) (by decide) ?_
    refine r_iload_n hX dX0_lengthOfMonth_56 rfl rfl ?_
    refine r_callS hX (c_X0_isLeap _ _ _) ks_X0_9 rfl rfl (Nat.le_of_ble_eq_true rfl) ⟨(Nat.le_of_ble_eq_true rfl), (Nat.le_of_ble_eq_true rfl)⟩ ⟨(Nat.le_of_ble_eq_true rfl), (Nat.le_of_ble_eq_true rfl)⟩ dX0_lengthOfMonth_57 (fun _ _ z => False.elim z) (fun v9 ws9 h2 => ?_)
    obtain ⟨r4, br4, rfl, hw9⟩ := h2
    subst ws9
    dsimp only [mPush]
    refine r_if_eq (tgt := 68) hX dX0_lengthOfMonth_60 (by decide) (fun c5 => ?_) (fun c5 => ?_)
    · refine r_bipush (v := 28) hX dX0_lengthOfMonth_68 (by decide) ?_
      exact r_iret hX hE dX0_lengthOfMonth_70 (Nat.le_of_ble_eq_true rfl) (Nat.le_of_ble_eq_true rfl) ⟨_, rfl, rfl⟩
    · refine r_bipush (v := 29) hX dX0_lengthOfMonth_63 (by decide) ?_
      refine r_goto (tgt := 70) hX dX0_lengthOfMonth_65 (by decide) ?_
      exact r_iret hX hE dX0_lengthOfMonth_70 (Nat.le_of_ble_eq_true rfl) (Nat.le_of_ble_eq_true rfl) ⟨_, rfl, rfl⟩
  by_cases s6 : p1.toInt = 3
  · refine r_tableIn (off := 73) (tgt := 74) hX dX0_lengthOfMonth_1 (by omega) (by omega) (by rw [s6]; rfl) (by decide) ?_
    refine r_bipush (v := 31) hX dX0_lengthOfMonth_74 (by decide) ?_
    exact r_iret hX hE dX0_lengthOfMonth_76 (Nat.le_of_ble_eq_true rfl) (Nat.le_of_ble_eq_true rfl) ⟨_, rfl, rfl⟩
  by_cases s7 : p1.toInt = 4
  · refine r_tableIn (off := 70) (tgt := 71) hX dX0_lengthOfMonth_1 (by omega) (by omega) (by rw [s7]; rfl) (by decide) ?_
    refine r_bipush (v := 30) hX dX0_lengthOfMonth_71 (by decide) ?_
    exact r_iret hX hE dX0_lengthOfMonth_73 (Nat.le_of_ble_eq_true rfl) (Nat.le_of_ble_eq_true rfl) ⟨_, rfl, rfl⟩
  by_cases s8 : p1.toInt = 5
  · refine r_tableIn (off := 73) (tgt := 74) hX dX0_lengthOfMonth_1 (by omega) (by omega) (by rw [s8]; rfl) (by decide) ?_
    refine r_bipush (v := 31) hX dX0_lengthOfMonth_74 (by decide) ?_
    exact r_iret hX hE dX0_lengthOfMonth_76 (Nat.le_of_ble_eq_true rfl) (Nat.le_of_ble_eq_true rfl) ⟨_, rfl, rfl⟩
  by_cases s9 : p1.toInt = 6
  · refine r_tableIn (off := 70) (tgt := 71) hX dX0_lengthOfMonth_1 (by omega) (by omega) (by rw [s9]; rfl) (by decide) ?_
    refine r_bipush (v := 30) hX dX0_lengthOfMonth_71 (by decide) ?_
    exact r_iret hX hE dX0_lengthOfMonth_73 (Nat.le_of_ble_eq_true rfl) (Nat.le_of_ble_eq_true rfl) ⟨_, rfl, rfl⟩
  by_cases s10 : p1.toInt = 7
  · refine r_tableIn (off := 73) (tgt := 74) hX dX0_lengthOfMonth_1 (by omega) (by omega) (by rw [s10]; rfl) (by decide) ?_
    refine r_bipush (v := 31) hX dX0_lengthOfMonth_74 (by decide) ?_
    exact r_iret hX hE dX0_lengthOfMonth_76 (Nat.le_of_ble_eq_true rfl) (Nat.le_of_ble_eq_true rfl) ⟨_, rfl, rfl⟩
  by_cases s11 : p1.toInt = 8
  · refine r_tableIn (off := 73) (tgt := 74) hX dX0_lengthOfMonth_1 (by omega) (by omega) (by rw [s11]; rfl) (by decide) ?_
    refine r_bipush (v := 31) hX dX0_lengthOfMonth_74 (by decide) ?_
    exact r_iret hX hE dX0_lengthOfMonth_76 (Nat.le_of_ble_eq_true rfl) (Nat.le_of_ble_eq_true rfl) ⟨_, rfl, rfl⟩
  by_cases s12 : p1.toInt = 9
  · refine r_tableIn (off := 70) (tgt := 71) hX dX0_lengthOfMonth_1 (by omega) (by omega) (by rw [s12]; rfl) (by decide) ?_
    refine r_bipush (v := 30) hX dX0_lengthOfMonth_71 (by decide) ?_
    exact r_iret hX hE dX0_lengthOfMonth_73 (Nat.le_of_ble_eq_true rfl) (Nat.le_of_ble_eq_true rfl) ⟨_, rfl, rfl⟩
  by_cases s13 : p1.toInt = 10
  · refine r_tableIn (off := 73) (tgt := 74) hX dX0_lengthOfMonth_1 (by omega) (by omega) (by rw [s13]; rfl) (by decide) ?_
    refine r_bipush (v := 31) hX dX0_lengthOfMonth_74 (by decide) ?_
    exact r_iret hX hE dX0_lengthOfMonth_76 (Nat.le_of_ble_eq_true rfl) (Nat.le_of_ble_eq_true rfl) ⟨_, rfl, rfl⟩
  by_cases s14 : p1.toInt = 11
  · refine r_tableIn (off := 70) (tgt := 71) hX dX0_lengthOfMonth_1 (by omega) (by omega) (by rw [s14]; rfl) (by decide) ?_
    refine r_bipush (v := 30) hX dX0_lengthOfMonth_71 (by decide) ?_
    exact r_iret hX hE dX0_lengthOfMonth_73 (Nat.le_of_ble_eq_true rfl) (Nat.le_of_ble_eq_true rfl) ⟨_, rfl, rfl⟩
  refine r_tableOut (tgt := 74) hX dX0_lengthOfMonth_1 (by omega) (by decide) ?_
  refine r_bipush (v := 31) hX dX0_lengthOfMonth_74 (by decide) ?_
  exact r_iret hX hE dX0_lengthOfMonth_76 (Nat.le_of_ble_eq_true rfl) (Nat.le_of_ble_eq_true rfl) ⟨_, rfl, rfl⟩
theorem dX0_isDay_0 : decode cX0_isDay 0 = .ok (.iload_n 1, 1) := by decide +kernel
theorem dX0_isDay_1 : decode cX0_isDay 1 = .ok (.i2l, 1) := by decide +kernel
theorem dX0_isDay_2 : decode cX0_isDay 2 = .ok (.lconst 1, 1) := by decide +kernel
theorem dX0_isDay_3 : decode cX0_isDay 3 = .ok (.ldc2_w 15, 3) := by decide +kernel
theorem dX0_isDay_6 : decode cX0_isDay 6 = .ok (.invokestatic 17, 3) := by decide +kernel
theorem dX0_isDay_9 : decode cX0_isDay 9 = .ok (.ifCond .eq 22, 3) := by decide +kernel
theorem dX0_isDay_12 : decode cX0_isDay 12 = .ok (.iload_n 2, 1) := by decide +kernel
theorem dX0_isDay_13 : decode cX0_isDay 13 = .ok (.i2l, 1) := by decide +kernel
theorem dX0_isDay_14 : decode cX0_isDay 14 = .ok (.lconst 1, 1) := by decide +kernel
theorem dX0_isDay_15 : decode cX0_isDay 15 = .ok (.iload_n 0, 1) := by decide +kernel
theorem dX0_isDay_16 : decode cX0_isDay 16 = .ok (.iload_n 1, 1) := by decide +kernel
theorem dX0_isDay_17 : decode cX0_isDay 17 = .ok (.invokestatic 21, 3) := by decide +kernel
theorem dX0_isDay_20 : decode cX0_isDay 20 = .ok (.i2l, 1) := by decide +kernel
theorem dX0_isDay_21 : decode cX0_isDay 21 = .ok (.invokestatic 17, 3) := by decide +kernel
theorem dX0_isDay_24 : decode cX0_isDay 24 = .ok (.ifCond .eq 7, 3) := by decide +kernel
theorem dX0_isDay_27 : decode cX0_isDay 27 = .ok (.iconst 1, 1) := by decide +kernel
theorem dX0_isDay_28 : decode cX0_isDay 28 = .ok (.goto 4, 3) := by decide +kernel
theorem dX0_isDay_31 : decode cX0_isDay 31 = .ok (.iconst 0, 1) := by decide +kernel
theorem dX0_isDay_32 : decode cX0_isDay 32 = .ok (.ireturn, 1) := by decide +kernel
set_option maxHeartbeats 4000000 in
set_option maxRecDepth 20000 in
theorem c_X0_isDay (tys : List (ClassId × FieldType)) (ws : va_W) (p0 : Int32) (p1 : Int32) (p2 : Int32) : mCt tys yX0_isDay cX0_isDay 3 (some .boolean) ⟨2, 0, 0, 41⟩ [.int p0, .int p1, .int p2] ws (mRb ws) mNo := by
  refine mCt.of (by decide +kernel) (Nat.le_of_ble_eq_true rfl) (fun X hX hE => ?_)
  have hX : mOK X RX0 cX0_isDay 3 ⟨2, 0, 0, 41⟩ [] tys := hX
  refine r_iload_n hX dX0_isDay_0 rfl rfl ?_
  refine r_i2l hX dX0_isDay_1 ?_
  refine r_lconst (v := 1) hX dX0_isDay_2 (by decide) ?_
  refine r_ldc2 hX kc_X0_15 dX0_isDay_3 ?_
  refine r_callN hX (c_X2_isWithin _ _ _ _ _) kn_X0_17 rfl rfl (Nat.le_of_ble_eq_true rfl) ⟨(Nat.le_of_ble_eq_true rfl), (Nat.le_of_ble_eq_true rfl)⟩ ⟨(Nat.le_of_ble_eq_true rfl), (Nat.le_of_ble_eq_true rfl)⟩ dX0_isDay_6 (fun _ _ z => False.elim z) (fun v9 ws9 h1 => ?_)
  obtain ⟨rfl, hw9⟩ := h1
  subst ws9
  dsimp only [mPush]
  refine r_if_eq (tgt := 31) hX dX0_isDay_9 (by decide) (fun c3 => ?_) (fun c3 => ?_)
  · refine r_iconst (v := 0) hX dX0_isDay_31 (by decide) ?_
    exact r_zret hX hE dX0_isDay_32 (mB_n (Or.inl rfl)) (Nat.le_of_ble_eq_true rfl) (Nat.le_of_ble_eq_true rfl) ⟨_, (Or.inl rfl), rfl, rfl⟩
  · refine r_iload_n hX dX0_isDay_12 rfl rfl ?_
    refine r_i2l hX dX0_isDay_13 ?_
    refine r_lconst (v := 1) hX dX0_isDay_14 (by decide) ?_
    refine r_iload_n hX dX0_isDay_15 rfl rfl ?_
    refine r_iload_n hX dX0_isDay_16 rfl rfl ?_
    refine r_callS hX (c_X0_lengthOfMonth _ _ _ _) ks_X0_21 rfl rfl (Nat.le_of_ble_eq_true rfl) ⟨(Nat.le_of_ble_eq_true rfl), (Nat.le_of_ble_eq_true rfl)⟩ ⟨(Nat.le_of_ble_eq_true rfl), (Nat.le_of_ble_eq_true rfl)⟩ dX0_isDay_17 (fun _ _ z => False.elim z) (fun v9 ws9 h4 => ?_)
    obtain ⟨r6, rfl, hw9⟩ := h4
    subst ws9
    dsimp only [mPush]
    refine r_i2l hX dX0_isDay_20 ?_
    refine r_callN hX (c_X2_isWithin _ _ _ _ _) kn_X0_17 rfl rfl (Nat.le_of_ble_eq_true rfl) ⟨(Nat.le_of_ble_eq_true rfl), (Nat.le_of_ble_eq_true rfl)⟩ ⟨(Nat.le_of_ble_eq_true rfl), (Nat.le_of_ble_eq_true rfl)⟩ dX0_isDay_21 (fun _ _ z => False.elim z) (fun v9 ws9 h7 => ?_)
    obtain ⟨rfl, hw9⟩ := h7
    subst ws9
    dsimp only [mPush]
    refine r_if_eq (tgt := 31) hX dX0_isDay_24 (by decide) (fun c9 => ?_) (fun c9 => ?_)
    · refine r_iconst (v := 0) hX dX0_isDay_31 (by decide) ?_
      exact r_zret hX hE dX0_isDay_32 (mB_n (Or.inl rfl)) (Nat.le_of_ble_eq_true rfl) (Nat.le_of_ble_eq_true rfl) ⟨_, (Or.inl rfl), rfl, rfl⟩
    · refine r_iconst (v := 1) hX dX0_isDay_27 (by decide) ?_
      refine r_goto (tgt := 32) hX dX0_isDay_28 (by decide) ?_
      exact r_zret hX hE dX0_isDay_32 (mB_n (Or.inr rfl)) (Nat.le_of_ble_eq_true rfl) (Nat.le_of_ble_eq_true rfl) ⟨_, (Or.inr rfl), rfl, rfl⟩
theorem dX0_firstDayOf_0 : decode cX0_firstDayOf 0 = .ok (.iload_n 0, 1) := by decide +kernel
theorem dX0_firstDayOf_1 : decode cX0_firstDayOf 1 = .ok (.iconst 1, 1) := by decide +kernel
theorem dX0_firstDayOf_2 : decode cX0_firstDayOf 2 = .ok (.isub, 1) := by decide +kernel
theorem dX0_firstDayOf_3 : decode cX0_firstDayOf 3 = .ok (.istore_n 1, 1) := by decide +kernel
theorem dX0_firstDayOf_4 : decode cX0_firstDayOf 4 = .ok (.iload_n 1, 1) := by decide +kernel
theorem dX0_firstDayOf_5 : decode cX0_firstDayOf 5 = .ok (.sipush 365, 3) := by decide +kernel
theorem dX0_firstDayOf_8 : decode cX0_firstDayOf 8 = .ok (.imul, 1) := by decide +kernel
theorem dX0_firstDayOf_9 : decode cX0_firstDayOf 9 = .ok (.iload_n 1, 1) := by decide +kernel
theorem dX0_firstDayOf_10 : decode cX0_firstDayOf 10 = .ok (.iconst 4, 1) := by decide +kernel
theorem dX0_firstDayOf_11 : decode cX0_firstDayOf 11 = .ok (.idiv, 1) := by decide +kernel
theorem dX0_firstDayOf_12 : decode cX0_firstDayOf 12 = .ok (.iadd, 1) := by decide +kernel
theorem dX0_firstDayOf_13 : decode cX0_firstDayOf 13 = .ok (.iload_n 1, 1) := by decide +kernel
theorem dX0_firstDayOf_14 : decode cX0_firstDayOf 14 = .ok (.bipush 100, 2) := by decide +kernel
theorem dX0_firstDayOf_16 : decode cX0_firstDayOf 16 = .ok (.idiv, 1) := by decide +kernel
theorem dX0_firstDayOf_17 : decode cX0_firstDayOf 17 = .ok (.isub, 1) := by decide +kernel
theorem dX0_firstDayOf_18 : decode cX0_firstDayOf 18 = .ok (.iload_n 1, 1) := by decide +kernel
theorem dX0_firstDayOf_19 : decode cX0_firstDayOf 19 = .ok (.sipush 400, 3) := by decide +kernel
theorem dX0_firstDayOf_22 : decode cX0_firstDayOf 22 = .ok (.idiv, 1) := by decide +kernel
theorem dX0_firstDayOf_23 : decode cX0_firstDayOf 23 = .ok (.iadd, 1) := by decide +kernel
theorem dX0_firstDayOf_24 : decode cX0_firstDayOf 24 = .ok (.ldc 25, 2) := by decide +kernel
theorem dX0_firstDayOf_26 : decode cX0_firstDayOf 26 = .ok (.isub, 1) := by decide +kernel
theorem dX0_firstDayOf_27 : decode cX0_firstDayOf 27 = .ok (.ireturn, 1) := by decide +kernel
set_option maxHeartbeats 4000000 in
set_option maxRecDepth 20000 in
theorem c_X0_firstDayOf (tys : List (ClassId × FieldType)) (ws : va_W) (p0 : Int32) : mCt tys yX0_firstDayOf cX0_firstDayOf 2 (some .int) ⟨0, 0, 0, 0⟩ [.int p0] ws (mRi ws) mNo := by
  refine mCt.of (by decide +kernel) (Nat.le_of_ble_eq_true rfl) (fun X hX hE => ?_)
  have hX : mOK X RX0 cX0_firstDayOf 2 ⟨0, 0, 0, 0⟩ [] tys := hX
  refine r_iload_n hX dX0_firstDayOf_0 rfl rfl ?_
  refine r_iconst (v := 1) hX dX0_firstDayOf_1 (by decide) ?_
  refine r_isub hX dX0_firstDayOf_2 ?_
  refine r_istore_n hX dX0_firstDayOf_3 rfl (by decide) rfl ?_
  refine r_iload_n hX dX0_firstDayOf_4 rfl rfl ?_
  refine r_sipush (v := 365) hX dX0_firstDayOf_5 (by decide) ?_
  refine r_imul hX dX0_firstDayOf_8 ?_
  refine r_iload_n hX dX0_firstDayOf_9 rfl rfl ?_
  refine r_iconst (v := 4) hX dX0_firstDayOf_10 (by decide) ?_
  refine r_idiv hX dX0_firstDayOf_11 (by first | decide | assumption) ?_
  refine r_iadd hX dX0_firstDayOf_12 ?_
  refine r_iload_n hX dX0_firstDayOf_13 rfl rfl ?_
  refine r_bipush (v := 100) hX dX0_firstDayOf_14 (by decide) ?_
  refine r_idiv hX dX0_firstDayOf_16 (by first | decide | assumption) ?_
  refine r_isub hX dX0_firstDayOf_17 ?_
  refine r_iload_n hX dX0_firstDayOf_18 rfl rfl ?_
  refine r_sipush (v := 400) hX dX0_firstDayOf_19 (by decide) ?_
  refine r_idiv hX dX0_firstDayOf_22 (by first | decide | assumption) ?_
  refine r_iadd hX dX0_firstDayOf_23 ?_
  refine r_ldc hX kc_X0_25 dX0_firstDayOf_24 ?_
  refine r_isub hX dX0_firstDayOf_26 ?_
  exact r_iret hX hE dX0_firstDayOf_27 (Nat.le_of_ble_eq_true rfl) (Nat.le_of_ble_eq_true rfl) ⟨_, rfl, rfl⟩
theorem dX0_daysBeforeMonth_0 : decode cX0_daysBeforeMonth 0 = .ok (.sipush 367, 3) := by decide +kernel
theorem dX0_daysBeforeMonth_3 : decode cX0_daysBeforeMonth 3 = .ok (.iload_n 1, 1) := by decide +kernel
theorem dX0_daysBeforeMonth_4 : decode cX0_daysBeforeMonth 4 = .ok (.imul, 1) := by decide +kernel
theorem dX0_daysBeforeMonth_5 : decode cX0_daysBeforeMonth 5 = .ok (.sipush 362, 3) := by decide +kernel
theorem dX0_daysBeforeMonth_8 : decode cX0_daysBeforeMonth 8 = .ok (.isub, 1) := by decide +kernel
theorem dX0_daysBeforeMonth_9 : decode cX0_daysBeforeMonth 9 = .ok (.bipush 12, 2) := by decide +kernel
theorem dX0_daysBeforeMonth_11 : decode cX0_daysBeforeMonth 11 = .ok (.idiv, 1) := by decide +kernel
theorem dX0_daysBeforeMonth_12 : decode cX0_daysBeforeMonth 12 = .ok (.istore_n 2, 1) := by decide +kernel
theorem dX0_daysBeforeMonth_13 : decode cX0_daysBeforeMonth 13 = .ok (.iload_n 1, 1) := by decide +kernel
theorem dX0_daysBeforeMonth_14 : decode cX0_daysBeforeMonth 14 = .ok (.iconst 2, 1) := by decide +kernel
theorem dX0_daysBeforeMonth_15 : decode cX0_daysBeforeMonth 15 = .ok (.if_icmp .gt 7, 3) := by decide +kernel
theorem dX0_daysBeforeMonth_18 : decode cX0_daysBeforeMonth 18 = .ok (.iload_n 2, 1) := by decide +kernel
theorem dX0_daysBeforeMonth_19 : decode cX0_daysBeforeMonth 19 = .ok (.goto 19, 3) := by decide +kernel
theorem dX0_daysBeforeMonth_22 : decode cX0_daysBeforeMonth 22 = .ok (.iload_n 0, 1) := by decide +kernel
theorem dX0_daysBeforeMonth_23 : decode cX0_daysBeforeMonth 23 = .ok (.invokestatic 9, 3) := by decide +kernel
theorem dX0_daysBeforeMonth_26 : decode cX0_daysBeforeMonth 26 = .ok (.ifCond .eq 9, 3) := by decide +kernel
theorem dX0_daysBeforeMonth_29 : decode cX0_daysBeforeMonth 29 = .ok (.iload_n 2, 1) := by decide +kernel
theorem dX0_daysBeforeMonth_30 : decode cX0_daysBeforeMonth 30 = .ok (.iconst 1, 1) := by decide +kernel
theorem dX0_daysBeforeMonth_31 : decode cX0_daysBeforeMonth 31 = .ok (.isub, 1) := by decide +kernel
theorem dX0_daysBeforeMonth_32 : decode cX0_daysBeforeMonth 32 = .ok (.goto 6, 3) := by decide +kernel
theorem dX0_daysBeforeMonth_35 : decode cX0_daysBeforeMonth 35 = .ok (.iload_n 2, 1) := by decide +kernel
theorem dX0_daysBeforeMonth_36 : decode cX0_daysBeforeMonth 36 = .ok (.iconst 2, 1) := by decide +kernel
theorem dX0_daysBeforeMonth_37 : decode cX0_daysBeforeMonth 37 = .ok (.isub, 1) := by decide +kernel
theorem dX0_daysBeforeMonth_38 : decode cX0_daysBeforeMonth 38 = .ok (.ireturn, 1) := by decide +kernel
set_option maxHeartbeats 4000000 in
set_option maxRecDepth 20000 in
theorem c_X0_daysBeforeMonth (tys : List (ClassId × FieldType)) (ws : va_W) (p0 : Int32) (p1 : Int32) : mCt tys yX0_daysBeforeMonth cX0_daysBeforeMonth 3 (some .int) ⟨1, 0, 0, 20⟩ [.int p0, .int p1] ws (mRi ws) mNo := by
  refine mCt.of (by decide +kernel) (Nat.le_of_ble_eq_true rfl) (fun X hX hE => ?_)
  have hX : mOK X RX0 cX0_daysBeforeMonth 3 ⟨1, 0, 0, 20⟩ [] tys := hX
  refine r_sipush (v := 367) hX dX0_daysBeforeMonth_0 (by decide) ?_
  refine r_iload_n hX dX0_daysBeforeMonth_3 rfl rfl ?_
  refine r_imul hX dX0_daysBeforeMonth_4 ?_
  refine r_sipush (v := 362) hX dX0_daysBeforeMonth_5 (by decide) ?_
  refine r_isub hX dX0_daysBeforeMonth_8 ?_
  refine r_bipush (v := 12) hX dX0_daysBeforeMonth_9 (by decide) ?_
  refine r_idiv hX dX0_daysBeforeMonth_11 (by first | decide | assumption) ?_
  refine r_istore_n hX dX0_daysBeforeMonth_12 rfl (by decide) rfl ?_
  refine r_iload_n hX dX0_daysBeforeMonth_13 rfl rfl ?_
  refine r_iconst (v := 2) hX dX0_daysBeforeMonth_14 (by decide) ?_
  refine r_icmp_gt (tgt := 22) hX dX0_daysBeforeMonth_15 (by decide) (fun c1 => ?_) (fun c1 => ?_)
  · refine r_iload_n hX dX0_daysBeforeMonth_22 rfl rfl ?_
    refine r_callS hX (c_X0_isLeap _ _ _) ks_X0_9 rfl rfl (Nat.le_of_ble_eq_true rfl) ⟨(Nat.le_of_ble_eq_true rfl), (Nat.le_of_ble_eq_true rfl)⟩ ⟨(Nat.le_of_ble_eq_true rfl), (Nat.le_of_ble_eq_true rfl)⟩ dX0_daysBeforeMonth_23 (fun _ _ z => False.elim z) (fun v9 ws9 h2 => ?_)
    obtain ⟨r4, br4, rfl, hw9⟩ := h2
    subst ws9
    dsimp only [mPush]
    refine r_if_eq (tgt := 35) hX dX0_daysBeforeMonth_26 (by decide) (fun c5 => ?_) (fun c5 => ?_)
    · refine r_iload_n hX dX0_daysBeforeMonth_35 rfl rfl ?_
      refine r_iconst (v := 2) hX dX0_daysBeforeMonth_36 (by decide) ?_
      refine r_isub hX dX0_daysBeforeMonth_37 ?_
      exact r_iret hX hE dX0_daysBeforeMonth_38 (Nat.le_of_ble_eq_true rfl) (Nat.le_of_ble_eq_true rfl) ⟨_, rfl, rfl⟩
    · refine r_iload_n hX dX0_daysBeforeMonth_29 rfl rfl ?_
      refine r_iconst (v := 1) hX dX0_daysBeforeMonth_30 (by decide) ?_
      refine r_isub hX dX0_daysBeforeMonth_31 ?_
      refine r_goto (tgt := 38) hX dX0_daysBeforeMonth_32 (by decide) ?_
      exact r_iret hX hE dX0_daysBeforeMonth_38 (Nat.le_of_ble_eq_true rfl) (Nat.le_of_ble_eq_true rfl) ⟨_, rfl, rfl⟩
  · refine r_iload_n hX dX0_daysBeforeMonth_18 rfl rfl ?_
    refine r_goto (tgt := 38) hX dX0_daysBeforeMonth_19 (by decide) ?_
    exact r_iret hX hE dX0_daysBeforeMonth_38 (Nat.le_of_ble_eq_true rfl) (Nat.le_of_ble_eq_true rfl) ⟨_, rfl, rfl⟩
theorem dX0_dayOf_0 : decode cX0_dayOf 0 = .ok (.iload_n 0, 1) := by decide +kernel
theorem dX0_dayOf_1 : decode cX0_dayOf 1 = .ok (.invokestatic 26, 3) := by decide +kernel
theorem dX0_dayOf_4 : decode cX0_dayOf 4 = .ok (.iload_n 0, 1) := by decide +kernel
theorem dX0_dayOf_5 : decode cX0_dayOf 5 = .ok (.iload_n 1, 1) := by decide +kernel
theorem dX0_dayOf_6 : decode cX0_dayOf 6 = .ok (.invokestatic 30, 3) := by decide +kernel
theorem dX0_dayOf_9 : decode cX0_dayOf 9 = .ok (.iadd, 1) := by decide +kernel
theorem dX0_dayOf_10 : decode cX0_dayOf 10 = .ok (.iload_n 2, 1) := by decide +kernel
theorem dX0_dayOf_11 : decode cX0_dayOf 11 = .ok (.iadd, 1) := by decide +kernel
theorem dX0_dayOf_12 : decode cX0_dayOf 12 = .ok (.iconst 1, 1) := by decide +kernel
theorem dX0_dayOf_13 : decode cX0_dayOf 13 = .ok (.isub, 1) := by decide +kernel
theorem dX0_dayOf_14 : decode cX0_dayOf 14 = .ok (.ireturn, 1) := by decide +kernel
set_option maxHeartbeats 4000000 in
set_option maxRecDepth 20000 in
theorem c_X0_dayOf (tys : List (ClassId × FieldType)) (ws : va_W) (p0 : Int32) (p1 : Int32) (p2 : Int32) : mCt tys yX0_dayOf cX0_dayOf 3 (some .int) ⟨2, 0, 0, 42⟩ [.int p0, .int p1, .int p2] ws (mRi ws) mNo := by
  refine mCt.of (by decide +kernel) (Nat.le_of_ble_eq_true rfl) (fun X hX hE => ?_)
  have hX : mOK X RX0 cX0_dayOf 3 ⟨2, 0, 0, 42⟩ [] tys := hX
  refine r_iload_n hX dX0_dayOf_0 rfl rfl ?_
  refine r_callS hX (c_X0_firstDayOf _ _ _) ks_X0_26 rfl rfl (Nat.le_of_ble_eq_true rfl) ⟨(Nat.le_of_ble_eq_true rfl), (Nat.le_of_ble_eq_true rfl)⟩ ⟨(Nat.le_of_ble_eq_true rfl), (Nat.le_of_ble_eq_true rfl)⟩ dX0_dayOf_1 (fun _ _ z => False.elim z) (fun v9 ws9 h1 => ?_)
  obtain ⟨r3, rfl, hw9⟩ := h1
  subst ws9
  dsimp only [mPush]
  refine r_iload_n hX dX0_dayOf_4 rfl rfl ?_
  refine r_iload_n hX dX0_dayOf_5 rfl rfl ?_
  refine r_callS hX (c_X0_daysBeforeMonth _ _ _ _) ks_X0_30 rfl rfl (Nat.le_of_ble_eq_true rfl) ⟨(Nat.le_of_ble_eq_true rfl), (Nat.le_of_ble_eq_true rfl)⟩ ⟨(Nat.le_of_ble_eq_true rfl), (Nat.le_of_ble_eq_true rfl)⟩ dX0_dayOf_6 (fun _ _ z => False.elim z) (fun v9 ws9 h4 => ?_)
  obtain ⟨r6, rfl, hw9⟩ := h4
  subst ws9
  dsimp only [mPush]
  refine r_iadd hX dX0_dayOf_9 ?_
  refine r_iload_n hX dX0_dayOf_10 rfl rfl ?_
  refine r_iadd hX dX0_dayOf_11 ?_
  refine r_iconst (v := 1) hX dX0_dayOf_12 (by decide) ?_
  refine r_isub hX dX0_dayOf_13 ?_
  exact r_iret hX hE dX0_dayOf_14 (Nat.le_of_ble_eq_true rfl) (Nat.le_of_ble_eq_true rfl) ⟨_, rfl, rfl⟩
theorem dX0_yearOf_0 : decode cX0_yearOf 0 = .ok (.sipush 1910, 3) := by decide +kernel
theorem dX0_yearOf_3 : decode cX0_yearOf 3 = .ok (.iload_n 0, 1) := by decide +kernel
theorem dX0_yearOf_4 : decode cX0_yearOf 4 = .ok (.sipush (-21915), 3) := by decide +kernel
theorem dX0_yearOf_7 : decode cX0_yearOf 7 = .ok (.isub, 1) := by decide +kernel
theorem dX0_yearOf_8 : decode cX0_yearOf 8 = .ok (.sipush 366, 3) := by decide +kernel
theorem dX0_yearOf_11 : decode cX0_yearOf 11 = .ok (.idiv, 1) := by decide +kernel
theorem dX0_yearOf_12 : decode cX0_yearOf 12 = .ok (.iadd, 1) := by decide +kernel
theorem dX0_yearOf_13 : decode cX0_yearOf 13 = .ok (.istore_n 1, 1) := by decide +kernel
theorem dX0_yearOf_14 : decode cX0_yearOf 14 = .ok (.iload_n 0, 1) := by decide +kernel
theorem dX0_yearOf_15 : decode cX0_yearOf 15 = .ok (.iload_n 1, 1) := by decide +kernel
theorem dX0_yearOf_16 : decode cX0_yearOf 16 = .ok (.iconst 1, 1) := by decide +kernel
theorem dX0_yearOf_17 : decode cX0_yearOf 17 = .ok (.iadd, 1) := by decide +kernel
theorem dX0_yearOf_18 : decode cX0_yearOf 18 = .ok (.invokestatic 26, 3) := by decide +kernel
theorem dX0_yearOf_21 : decode cX0_yearOf 21 = .ok (.if_icmp .ge 7, 3) := by decide +kernel
theorem dX0_yearOf_24 : decode cX0_yearOf 24 = .ok (.iload_n 1, 1) := by decide +kernel
theorem dX0_yearOf_25 : decode cX0_yearOf 25 = .ok (.goto 6, 3) := by decide +kernel
theorem dX0_yearOf_28 : decode cX0_yearOf 28 = .ok (.iload_n 1, 1) := by decide +kernel
theorem dX0_yearOf_29 : decode cX0_yearOf 29 = .ok (.iconst 1, 1) := by decide +kernel
theorem dX0_yearOf_30 : decode cX0_yearOf 30 = .ok (.iadd, 1) := by decide +kernel
theorem dX0_yearOf_31 : decode cX0_yearOf 31 = .ok (.ireturn, 1) := by decide +kernel
set_option maxHeartbeats 4000000 in
set_option maxRecDepth 20000 in
theorem c_X0_yearOf (tys : List (ClassId × FieldType)) (ws : va_W) (p0 : Int32) : mCt tys yX0_yearOf cX0_yearOf 2 (some .int) ⟨1, 0, 0, 21⟩ [.int p0] ws (mRi ws) mNo := by
  refine mCt.of (by decide +kernel) (Nat.le_of_ble_eq_true rfl) (fun X hX hE => ?_)
  have hX : mOK X RX0 cX0_yearOf 2 ⟨1, 0, 0, 21⟩ [] tys := hX
  refine r_sipush (v := 1910) hX dX0_yearOf_0 (by decide) ?_
  refine r_iload_n hX dX0_yearOf_3 rfl rfl ?_
  refine r_sipush (v := -21915) hX dX0_yearOf_4 (by decide) ?_
  refine r_isub hX dX0_yearOf_7 ?_
  refine r_sipush (v := 366) hX dX0_yearOf_8 (by decide) ?_
  refine r_idiv hX dX0_yearOf_11 (by first | decide | assumption) ?_
  refine r_iadd hX dX0_yearOf_12 ?_
  refine r_istore_n hX dX0_yearOf_13 rfl (by decide) rfl ?_
  refine r_iload_n hX dX0_yearOf_14 rfl rfl ?_
  refine r_iload_n hX dX0_yearOf_15 rfl rfl ?_
  refine r_iconst (v := 1) hX dX0_yearOf_16 (by decide) ?_
  refine r_iadd hX dX0_yearOf_17 ?_
  refine r_callS hX (c_X0_firstDayOf _ _ _) ks_X0_26 rfl rfl (Nat.le_of_ble_eq_true rfl) ⟨(Nat.le_of_ble_eq_true rfl), (Nat.le_of_ble_eq_true rfl)⟩ ⟨(Nat.le_of_ble_eq_true rfl), (Nat.le_of_ble_eq_true rfl)⟩ dX0_yearOf_18 (fun _ _ z => False.elim z) (fun v9 ws9 h1 => ?_)
  obtain ⟨r3, rfl, hw9⟩ := h1
  subst ws9
  dsimp only [mPush]
  refine r_icmp_ge (tgt := 28) hX dX0_yearOf_21 (by decide) (fun c4 => ?_) (fun c4 => ?_)
  · refine r_iload_n hX dX0_yearOf_28 rfl rfl ?_
    refine r_iconst (v := 1) hX dX0_yearOf_29 (by decide) ?_
    refine r_iadd hX dX0_yearOf_30 ?_
    exact r_iret hX hE dX0_yearOf_31 (Nat.le_of_ble_eq_true rfl) (Nat.le_of_ble_eq_true rfl) ⟨_, rfl, rfl⟩
  · refine r_iload_n hX dX0_yearOf_24 rfl rfl ?_
    refine r_goto (tgt := 31) hX dX0_yearOf_25 (by decide) ?_
    exact r_iret hX hE dX0_yearOf_31 (Nat.le_of_ble_eq_true rfl) (Nat.le_of_ble_eq_true rfl) ⟨_, rfl, rfl⟩
theorem dX0_dayOfYear_0 : decode cX0_dayOfYear 0 = .ok (.iload_n 0, 1) := by decide +kernel
theorem dX0_dayOfYear_1 : decode cX0_dayOfYear 1 = .ok (.iload_n 0, 1) := by decide +kernel
theorem dX0_dayOfYear_2 : decode cX0_dayOfYear 2 = .ok (.invokestatic 33, 3) := by decide +kernel
theorem dX0_dayOfYear_5 : decode cX0_dayOfYear 5 = .ok (.invokestatic 26, 3) := by decide +kernel
theorem dX0_dayOfYear_8 : decode cX0_dayOfYear 8 = .ok (.isub, 1) := by decide +kernel
theorem dX0_dayOfYear_9 : decode cX0_dayOfYear 9 = .ok (.iconst 1, 1) := by decide +kernel
theorem dX0_dayOfYear_10 : decode cX0_dayOfYear 10 = .ok (.iadd, 1) := by decide +kernel
theorem dX0_dayOfYear_11 : decode cX0_dayOfYear 11 = .ok (.ireturn, 1) := by decide +kernel
set_option maxHeartbeats 4000000 in
set_option maxRecDepth 20000 in
theorem c_X0_dayOfYear (tys : List (ClassId × FieldType)) (ws : va_W) (p0 : Int32) : mCt tys yX0_dayOfYear cX0_dayOfYear 1 (some .int) ⟨2, 0, 0, 42⟩ [.int p0] ws (mRi ws) mNo := by
  refine mCt.of (by decide +kernel) (Nat.le_of_ble_eq_true rfl) (fun X hX hE => ?_)
  have hX : mOK X RX0 cX0_dayOfYear 1 ⟨2, 0, 0, 42⟩ [] tys := hX
  refine r_iload_n hX dX0_dayOfYear_0 rfl rfl ?_
  refine r_iload_n hX dX0_dayOfYear_1 rfl rfl ?_
  refine r_callS hX (c_X0_yearOf _ _ _) ks_X0_33 rfl rfl (Nat.le_of_ble_eq_true rfl) ⟨(Nat.le_of_ble_eq_true rfl), (Nat.le_of_ble_eq_true rfl)⟩ ⟨(Nat.le_of_ble_eq_true rfl), (Nat.le_of_ble_eq_true rfl)⟩ dX0_dayOfYear_2 (fun _ _ z => False.elim z) (fun v9 ws9 h1 => ?_)
  obtain ⟨r3, rfl, hw9⟩ := h1
  subst ws9
  dsimp only [mPush]
  refine r_callS hX (c_X0_firstDayOf _ _ _) ks_X0_26 rfl rfl (Nat.le_of_ble_eq_true rfl) ⟨(Nat.le_of_ble_eq_true rfl), (Nat.le_of_ble_eq_true rfl)⟩ ⟨(Nat.le_of_ble_eq_true rfl), (Nat.le_of_ble_eq_true rfl)⟩ dX0_dayOfYear_5 (fun _ _ z => False.elim z) (fun v9 ws9 h4 => ?_)
  obtain ⟨r6, rfl, hw9⟩ := h4
  subst ws9
  dsimp only [mPush]
  refine r_isub hX dX0_dayOfYear_8 ?_
  refine r_iconst (v := 1) hX dX0_dayOfYear_9 (by decide) ?_
  refine r_iadd hX dX0_dayOfYear_10 ?_
  exact r_iret hX hE dX0_dayOfYear_11 (Nat.le_of_ble_eq_true rfl) (Nat.le_of_ble_eq_true rfl) ⟨_, rfl, rfl⟩
theorem dX0_monthOf_0 : decode cX0_monthOf 0 = .ok (.iload_n 0, 1) := by decide +kernel
theorem dX0_monthOf_1 : decode cX0_monthOf 1 = .ok (.invokestatic 33, 3) := by decide +kernel
theorem dX0_monthOf_4 : decode cX0_monthOf 4 = .ok (.istore_n 1, 1) := by decide +kernel
theorem dX0_monthOf_5 : decode cX0_monthOf 5 = .ok (.iload_n 0, 1) := by decide +kernel
theorem dX0_monthOf_6 : decode cX0_monthOf 6 = .ok (.iload_n 1, 1) := by decide +kernel
theorem dX0_monthOf_7 : decode cX0_monthOf 7 = .ok (.invokestatic 26, 3) := by decide +kernel
theorem dX0_monthOf_10 : decode cX0_monthOf 10 = .ok (.isub, 1) := by decide +kernel
theorem dX0_monthOf_11 : decode cX0_monthOf 11 = .ok (.istore_n 2, 1) := by decide +kernel
theorem dX0_monthOf_12 : decode cX0_monthOf 12 = .ok (.iconst 1, 1) := by decide +kernel
theorem dX0_monthOf_13 : decode cX0_monthOf 13 = .ok (.istore_n 3, 1) := by decide +kernel
theorem dX0_monthOf_14 : decode cX0_monthOf 14 = .ok (.iload_n 3, 1) := by decide +kernel
theorem dX0_monthOf_15 : decode cX0_monthOf 15 = .ok (.bipush 12, 2) := by decide +kernel
theorem dX0_monthOf_17 : decode cX0_monthOf 17 = .ok (.if_icmp .ge 20, 3) := by decide +kernel
theorem dX0_monthOf_20 : decode cX0_monthOf 20 = .ok (.iload_n 2, 1) := by decide +kernel
theorem dX0_monthOf_21 : decode cX0_monthOf 21 = .ok (.iload_n 1, 1) := by decide +kernel
theorem dX0_monthOf_22 : decode cX0_monthOf 22 = .ok (.iload_n 3, 1) := by decide +kernel
theorem dX0_monthOf_23 : decode cX0_monthOf 23 = .ok (.iconst 1, 1) := by decide +kernel
theorem dX0_monthOf_24 : decode cX0_monthOf 24 = .ok (.iadd, 1) := by decide +kernel
theorem dX0_monthOf_25 : decode cX0_monthOf 25 = .ok (.invokestatic 30, 3) := by decide +kernel
theorem dX0_monthOf_28 : decode cX0_monthOf 28 = .ok (.if_icmp .lt 9, 3) := by decide +kernel
theorem dX0_monthOf_31 : decode cX0_monthOf 31 = .ok (.iinc 3 1, 3) := by decide +kernel
theorem dX0_monthOf_34 : decode cX0_monthOf 34 = .ok (.goto (-20), 3) := by decide +kernel
theorem dX0_monthOf_37 : decode cX0_monthOf 37 = .ok (.iload_n 3, 1) := by decide +kernel
theorem dX0_monthOf_38 : decode cX0_monthOf 38 = .ok (.ireturn, 1) := by decide +kernel
set_option maxHeartbeats 4000000 in
set_option maxRecDepth 20000 in
theorem c_X0_monthOf (tys : List (ClassId × FieldType)) (ws : va_W) (p0 : Int32) : mCt tys yX0_monthOf cX0_monthOf 4 (some .int) ⟨2, 0, 0, 42⟩ [.int p0] ws (mRi ws) mNo := by
  refine mCt.of (by decide +kernel) (Nat.le_of_ble_eq_true rfl) (fun X hX hE => ?_)
  have hX : mOK X RX0 cX0_monthOf 4 ⟨2, 0, 0, 42⟩ [] tys := hX
  refine r_iload_n hX dX0_monthOf_0 rfl rfl ?_
  refine r_callS hX (c_X0_yearOf _ _ _) ks_X0_33 rfl rfl (Nat.le_of_ble_eq_true rfl) ⟨(Nat.le_of_ble_eq_true rfl), (Nat.le_of_ble_eq_true rfl)⟩ ⟨(Nat.le_of_ble_eq_true rfl), (Nat.le_of_ble_eq_true rfl)⟩ dX0_monthOf_1 (fun _ _ z => False.elim z) (fun v9 ws9 h1 => ?_)
  obtain ⟨r3, rfl, hw9⟩ := h1
  subst ws9
  dsimp only [mPush]
  refine r_istore_n hX dX0_monthOf_4 rfl (by decide) rfl ?_
  refine r_iload_n hX dX0_monthOf_5 rfl rfl ?_
  refine r_iload_n hX dX0_monthOf_6 rfl rfl ?_
  refine r_callS hX (c_X0_firstDayOf _ _ _) ks_X0_26 rfl rfl (Nat.le_of_ble_eq_true rfl) ⟨(Nat.le_of_ble_eq_true rfl), (Nat.le_of_ble_eq_true rfl)⟩ ⟨(Nat.le_of_ble_eq_true rfl), (Nat.le_of_ble_eq_true rfl)⟩ dX0_monthOf_7 (fun _ _ z => False.elim z) (fun v9 ws9 h4 => ?_)
  obtain ⟨r6, rfl, hw9⟩ := h4
  subst ws9
  dsimp only [mPush]
  refine r_isub hX dX0_monthOf_10 ?_
  refine r_istore_n hX dX0_monthOf_11 rfl (by decide) rfl ?_
  refine r_iconst (v := 1) hX dX0_monthOf_12 (by decide) ?_
  refine r_istore_n hX dX0_monthOf_13 rfl (by decide) rfl ?_
  have L14 : ∀ (N9 j7 : Nat) (x8 : Int32), 12 - j7 < N9 → j7 ≤ 12 → mV X 14 [(0, some (.int p0)), (1, some (.int r3)), (2, some (.int x8)), (3, some (.int (nI j7)))] [] ws 0 0 := by
    intro N9
    induction N9 with
    | zero => intro j7 x8; omega
    | succ N9 ih14 =>
      intro j7 x8 hN14 hj7e
      refine r_iload_n hX dX0_monthOf_14 rfl rfl ?_
      refine r_bipush (v := 12) hX dX0_monthOf_15 (by decide) ?_
      refine r_icmp_ge (tgt := 37) hX dX0_monthOf_17 (by decide) (fun c10 => ?_) (fun c10 => ?_)
      · refine r_iload_n hX dX0_monthOf_37 rfl rfl ?_
        exact r_iret hX hE dX0_monthOf_38 (Nat.le_of_ble_eq_true rfl) (Nat.le_of_ble_eq_true rfl) ⟨_, rfl, rfl⟩
      · have hj7 : j7 < 12 := mlt (by first | rfl | decide) (by decide) hj7e c10
        refine r_iload_n hX dX0_monthOf_20 rfl rfl ?_
        refine r_iload_n hX dX0_monthOf_21 rfl rfl ?_
        refine r_iload_n hX dX0_monthOf_22 rfl rfl ?_
        refine r_iconst (v := 1) hX dX0_monthOf_23 (by decide) ?_
        refine r_iadd hX dX0_monthOf_24 ?_
        refine r_callS hX (c_X0_daysBeforeMonth _ _ _ _) ks_X0_30 rfl rfl (Nat.le_of_ble_eq_true rfl) ⟨(Nat.le_of_ble_eq_true rfl), (Nat.le_of_ble_eq_true rfl)⟩ ⟨(Nat.le_of_ble_eq_true rfl), (Nat.le_of_ble_eq_true rfl)⟩ dX0_monthOf_25 (fun _ _ z => False.elim z) (fun v9 ws9 h11 => ?_)
        obtain ⟨r13, rfl, hw9⟩ := h11
        subst ws9
        dsimp only [mPush]
        refine r_icmp_lt (tgt := 37) hX dX0_monthOf_28 (by decide) (fun c14 => ?_) (fun c14 => ?_)
        · refine r_iload_n hX dX0_monthOf_37 rfl rfl ?_
          exact r_iret hX hE dX0_monthOf_38 (Nat.le_of_ble_eq_true rfl) (Nat.le_of_ble_eq_true rfl) ⟨_, rfl, rfl⟩
        · refine r_iinc hX dX0_monthOf_31 rfl (by decide) rfl ?_
          refine r_goto (tgt := 14) hX dX0_monthOf_34 (by decide) ?_
          exact r_loc (k' := 0) (n' := 0) (by exact ⟨rfl, rfl, rfl, nI_inc' _, trivial⟩) (by decide) (by decide) (ih14 (j7 + 1) _ (by omega) (by omega))
  exact r_loc (k' := 0) (n' := 0) (by exact ⟨rfl, rfl, rfl, rfl, trivial⟩) (by decide) (by decide) (L14 (12 + 1) 1 _ (by omega) (by omega))
theorem dX0_dayOfMonth_0 : decode cX0_dayOfMonth 0 = .ok (.iload_n 0, 1) := by decide +kernel
theorem dX0_dayOfMonth_1 : decode cX0_dayOfMonth 1 = .ok (.invokestatic 36, 3) := by decide +kernel
theorem dX0_dayOfMonth_4 : decode cX0_dayOfMonth 4 = .ok (.iload_n 0, 1) := by decide +kernel
theorem dX0_dayOfMonth_5 : decode cX0_dayOfMonth 5 = .ok (.invokestatic 33, 3) := by decide +kernel
theorem dX0_dayOfMonth_8 : decode cX0_dayOfMonth 8 = .ok (.iload_n 0, 1) := by decide +kernel
theorem dX0_dayOfMonth_9 : decode cX0_dayOfMonth 9 = .ok (.invokestatic 39, 3) := by decide +kernel
theorem dX0_dayOfMonth_12 : decode cX0_dayOfMonth 12 = .ok (.invokestatic 30, 3) := by decide +kernel
theorem dX0_dayOfMonth_15 : decode cX0_dayOfMonth 15 = .ok (.isub, 1) := by decide +kernel
theorem dX0_dayOfMonth_16 : decode cX0_dayOfMonth 16 = .ok (.ireturn, 1) := by decide +kernel
set_option maxHeartbeats 4000000 in
set_option maxRecDepth 20000 in
theorem c_X0_dayOfMonth (tys : List (ClassId × FieldType)) (ws : va_W) (p0 : Int32) : mCt tys yX0_dayOfMonth cX0_dayOfMonth 1 (some .int) ⟨3, 0, 0, 65⟩ [.int p0] ws (mRi ws) mNo := by
  refine mCt.of (by decide +kernel) (Nat.le_of_ble_eq_true rfl) (fun X hX hE => ?_)
  have hX : mOK X RX0 cX0_dayOfMonth 1 ⟨3, 0, 0, 65⟩ [] tys := hX
  refine r_iload_n hX dX0_dayOfMonth_0 rfl rfl ?_
  refine r_callS hX (c_X0_dayOfYear _ _ _) ks_X0_36 rfl rfl (Nat.le_of_ble_eq_true rfl) ⟨(Nat.le_of_ble_eq_true rfl), (Nat.le_of_ble_eq_true rfl)⟩ ⟨(Nat.le_of_ble_eq_true rfl), (Nat.le_of_ble_eq_true rfl)⟩ dX0_dayOfMonth_1 (fun _ _ z => False.elim z) (fun v9 ws9 h1 => ?_)
  obtain ⟨r3, rfl, hw9⟩ := h1
  subst ws9
  dsimp only [mPush]
  refine r_iload_n hX dX0_dayOfMonth_4 rfl rfl ?_
  refine r_callS hX (c_X0_yearOf _ _ _) ks_X0_33 rfl rfl (Nat.le_of_ble_eq_true rfl) ⟨(Nat.le_of_ble_eq_true rfl), (Nat.le_of_ble_eq_true rfl)⟩ ⟨(Nat.le_of_ble_eq_true rfl), (Nat.le_of_ble_eq_true rfl)⟩ dX0_dayOfMonth_5 (fun _ _ z => False.elim z) (fun v9 ws9 h4 => ?_)
  obtain ⟨r6, rfl, hw9⟩ := h4
  subst ws9
  dsimp only [mPush]
  refine r_iload_n hX dX0_dayOfMonth_8 rfl rfl ?_
  refine r_callS hX (c_X0_monthOf _ _ _) ks_X0_39 rfl rfl (Nat.le_of_ble_eq_true rfl) ⟨(Nat.le_of_ble_eq_true rfl), (Nat.le_of_ble_eq_true rfl)⟩ ⟨(Nat.le_of_ble_eq_true rfl), (Nat.le_of_ble_eq_true rfl)⟩ dX0_dayOfMonth_9 (fun _ _ z => False.elim z) (fun v9 ws9 h7 => ?_)
  obtain ⟨r9, rfl, hw9⟩ := h7
  subst ws9
  dsimp only [mPush]
  refine r_callS hX (c_X0_daysBeforeMonth _ _ _ _) ks_X0_30 rfl rfl (Nat.le_of_ble_eq_true rfl) ⟨(Nat.le_of_ble_eq_true rfl), (Nat.le_of_ble_eq_true rfl)⟩ ⟨(Nat.le_of_ble_eq_true rfl), (Nat.le_of_ble_eq_true rfl)⟩ dX0_dayOfMonth_12 (fun _ _ z => False.elim z) (fun v9 ws9 h10 => ?_)
  obtain ⟨r12, rfl, hw9⟩ := h10
  subst ws9
  dsimp only [mPush]
  refine r_isub hX dX0_dayOfMonth_15 ?_
  exact r_iret hX hE dX0_dayOfMonth_16 (Nat.le_of_ble_eq_true rfl) (Nat.le_of_ble_eq_true rfl) ⟨_, rfl, rfl⟩
theorem dX0_dayOfWeek_0 : decode cX0_dayOfWeek 0 = .ok (.iload_n 0, 1) := by decide +kernel
theorem dX0_dayOfWeek_1 : decode cX0_dayOfWeek 1 = .ok (.iconst 3, 1) := by decide +kernel
theorem dX0_dayOfWeek_2 : decode cX0_dayOfWeek 2 = .ok (.iadd, 1) := by decide +kernel
theorem dX0_dayOfWeek_3 : decode cX0_dayOfWeek 3 = .ok (.bipush 7, 2) := by decide +kernel
theorem dX0_dayOfWeek_5 : decode cX0_dayOfWeek 5 = .ok (.invokestatic 42, 3) := by decide +kernel
theorem dX0_dayOfWeek_8 : decode cX0_dayOfWeek 8 = .ok (.iconst 1, 1) := by decide +kernel
theorem dX0_dayOfWeek_9 : decode cX0_dayOfWeek 9 = .ok (.iadd, 1) := by decide +kernel
theorem dX0_dayOfWeek_10 : decode cX0_dayOfWeek 10 = .ok (.ireturn, 1) := by decide +kernel
set_option maxHeartbeats 4000000 in
set_option maxRecDepth 20000 in
theorem c_X0_dayOfWeek (tys : List (ClassId × FieldType)) (ws : va_W) (p0 : Int32) : mCt tys yX0_dayOfWeek cX0_dayOfWeek 1 (some .int) ⟨1, 0, 0, 22⟩ [.int p0] ws (mRi ws) mNo := by
  refine mCt.of (by decide +kernel) (Nat.le_of_ble_eq_true rfl) (fun X hX hE => ?_)
  have hX : mOK X RX0 cX0_dayOfWeek 1 ⟨1, 0, 0, 22⟩ [] tys := hX
  refine r_iload_n hX dX0_dayOfWeek_0 rfl rfl ?_
  refine r_iconst (v := 3) hX dX0_dayOfWeek_1 (by decide) ?_
  refine r_iadd hX dX0_dayOfWeek_2 ?_
  refine r_bipush (v := 7) hX dX0_dayOfWeek_3 (by decide) ?_
  refine r_callS hX (c_J9_floorMod_7cf53 _ _ _ _ (by decide)) ks_X0_42 rfl rfl (Nat.le_of_ble_eq_true rfl) ⟨(Nat.le_of_ble_eq_true rfl), (Nat.le_of_ble_eq_true rfl)⟩ ⟨(Nat.le_of_ble_eq_true rfl), (Nat.le_of_ble_eq_true rfl)⟩ dX0_dayOfWeek_5 (fun _ _ z => False.elim z) (fun v9 ws9 h1 => ?_)
  obtain ⟨r3, rfl, hw9⟩ := h1
  subst ws9
  dsimp only [mPush]
  refine r_iconst (v := 1) hX dX0_dayOfWeek_8 (by decide) ?_
  refine r_iadd hX dX0_dayOfWeek_9 ?_
  exact r_iret hX hE dX0_dayOfWeek_10 (Nat.le_of_ble_eq_true rfl) (Nat.le_of_ble_eq_true rfl) ⟨_, rfl, rfl⟩
theorem dX2_compared_0 : decode cX2_compared 0 = .ok (.lload_n 0, 1) := by decide +kernel
theorem dX2_compared_1 : decode cX2_compared 1 = .ok (.lload_n 2, 1) := by decide +kernel
theorem dX2_compared_2 : decode cX2_compared 2 = .ok (.lcmp, 1) := by decide +kernel
theorem dX2_compared_3 : decode cX2_compared 3 = .ok (.ifCond .ge 7, 3) := by decide +kernel
theorem dX2_compared_6 : decode cX2_compared 6 = .ok (.iconst (-1), 1) := by decide +kernel
theorem dX2_compared_7 : decode cX2_compared 7 = .ok (.goto 14, 3) := by decide +kernel
theorem dX2_compared_10 : decode cX2_compared 10 = .ok (.lload_n 0, 1) := by decide +kernel
theorem dX2_compared_11 : decode cX2_compared 11 = .ok (.lload_n 2, 1) := by decide +kernel
theorem dX2_compared_12 : decode cX2_compared 12 = .ok (.lcmp, 1) := by decide +kernel
theorem dX2_compared_13 : decode cX2_compared 13 = .ok (.ifCond .le 7, 3) := by decide +kernel
theorem dX2_compared_16 : decode cX2_compared 16 = .ok (.iconst 1, 1) := by decide +kernel
theorem dX2_compared_17 : decode cX2_compared 17 = .ok (.goto 4, 3) := by decide +kernel
theorem dX2_compared_20 : decode cX2_compared 20 = .ok (.iconst 0, 1) := by decide +kernel
theorem dX2_compared_21 : decode cX2_compared 21 = .ok (.ireturn, 1) := by decide +kernel
set_option maxHeartbeats 4000000 in
set_option maxRecDepth 20000 in
theorem c_X2_compared (tys : List (ClassId × FieldType)) (ws : va_W) (p0 : Int64) (p1 : Int64) : mCt tys yX2_compared cX2_compared 4 (some .int) ⟨0, 0, 0, 0⟩ [.long p0, .long p1] ws (mRi ws) mNo := by
  refine mCt.of (by decide +kernel) (Nat.le_of_ble_eq_true rfl) (fun X hX hE => ?_)
  have hX : mOK X RX2 cX2_compared 4 ⟨0, 0, 0, 0⟩ [] tys := hX
  refine r_lload_n hX dX2_compared_0 rfl rfl ?_
  refine r_lload_n hX dX2_compared_1 rfl rfl ?_
  refine r_lcmp hX dX2_compared_2 ?_
  refine r_if_ge (tgt := 10) hX dX2_compared_3 (by decide) (fun c1 => ?_) (fun c1 => ?_)
  · refine r_lload_n hX dX2_compared_10 rfl rfl ?_
    refine r_lload_n hX dX2_compared_11 rfl rfl ?_
    refine r_lcmp hX dX2_compared_12 ?_
    refine r_if_le (tgt := 20) hX dX2_compared_13 (by decide) (fun c2 => ?_) (fun c2 => ?_)
    · refine r_iconst (v := 0) hX dX2_compared_20 (by decide) ?_
      exact r_iret hX hE dX2_compared_21 (Nat.le_of_ble_eq_true rfl) (Nat.le_of_ble_eq_true rfl) ⟨_, rfl, rfl⟩
    · refine r_iconst (v := 1) hX dX2_compared_16 (by decide) ?_
      refine r_goto (tgt := 21) hX dX2_compared_17 (by decide) ?_
      exact r_iret hX hE dX2_compared_21 (Nat.le_of_ble_eq_true rfl) (Nat.le_of_ble_eq_true rfl) ⟨_, rfl, rfl⟩
  · refine r_iconst (v := -1) hX dX2_compared_6 (by decide) ?_
    refine r_goto (tgt := 21) hX dX2_compared_7 (by decide) ?_
    exact r_iret hX hE dX2_compared_21 (Nat.le_of_ble_eq_true rfl) (Nat.le_of_ble_eq_true rfl) ⟨_, rfl, rfl⟩
theorem dX2_signed_0 : decode cX2_signed 0 = .ok (.iload_n 1, 1) := by decide +kernel
theorem dX2_signed_1 : decode cX2_signed 1 = .ok (.ifCond .eq 9, 3) := by decide +kernel
theorem dX2_signed_4 : decode cX2_signed 4 = .ok (.iload_n 0, 1) := by decide +kernel
theorem dX2_signed_5 : decode cX2_signed 5 = .ok (.i2l, 1) := by decide +kernel
theorem dX2_signed_6 : decode cX2_signed 6 = .ok (.lneg, 1) := by decide +kernel
theorem dX2_signed_7 : decode cX2_signed 7 = .ok (.goto 5, 3) := by decide +kernel
theorem dX2_signed_10 : decode cX2_signed 10 = .ok (.iload_n 0, 1) := by decide +kernel
theorem dX2_signed_11 : decode cX2_signed 11 = .ok (.i2l, 1) := by decide +kernel
theorem dX2_signed_12 : decode cX2_signed 12 = .ok (.lreturn, 1) := by decide +kernel
set_option maxHeartbeats 4000000 in
set_option maxRecDepth 20000 in
theorem c_X2_signed (tys : List (ClassId × FieldType)) (ws : va_W) (p0 : Int32) (p1 : Int32) : mCt tys yX2_signed cX2_signed 2 (some .long) ⟨0, 0, 0, 0⟩ [.int p0, .int p1] ws (mRl ws) mNo := by
  refine mCt.of (by decide +kernel) (Nat.le_of_ble_eq_true rfl) (fun X hX hE => ?_)
  have hX : mOK X RX2 cX2_signed 2 ⟨0, 0, 0, 0⟩ [] tys := hX
  refine r_iload_n hX dX2_signed_0 rfl rfl ?_
  refine r_if_eq (tgt := 10) hX dX2_signed_1 (by decide) (fun c1 => ?_) (fun c1 => ?_)
  · refine r_iload_n hX dX2_signed_10 rfl rfl ?_
    refine r_i2l hX dX2_signed_11 ?_
    exact r_lret hX hE dX2_signed_12 (Nat.le_of_ble_eq_true rfl) (Nat.le_of_ble_eq_true rfl) ⟨_, rfl, rfl⟩
  · refine r_iload_n hX dX2_signed_4 rfl rfl ?_
    refine r_i2l hX dX2_signed_5 ?_
    refine r_lneg hX dX2_signed_6 ?_
    refine r_goto (tgt := 12) hX dX2_signed_7 (by decide) ?_
    exact r_lret hX hE dX2_signed_12 (Nat.le_of_ble_eq_true rfl) (Nat.le_of_ble_eq_true rfl) ⟨_, rfl, rfl⟩
theorem dX2_secondOf_0 : decode cX2_secondOf 0 = .ok (.lload_n 0, 1) := by decide +kernel
theorem dX2_secondOf_1 : decode cX2_secondOf 1 = .ok (.ldc2_w 72, 3) := by decide +kernel
theorem dX2_secondOf_4 : decode cX2_secondOf 4 = .ok (.invokestatic 100, 3) := by decide +kernel
theorem dX2_secondOf_7 : decode cX2_secondOf 7 = .ok (.lreturn, 1) := by decide +kernel
set_option maxHeartbeats 4000000 in
set_option maxRecDepth 20000 in
theorem c_X2_secondOf (tys : List (ClassId × FieldType)) (ws : va_W) (p0 : Int64) : mCt tys yX2_secondOf cX2_secondOf 2 (some .long) ⟨1, 0, 0, 25⟩ [.long p0] ws (mRl ws) mNo := by
  refine mCt.of (by decide +kernel) (Nat.le_of_ble_eq_true rfl) (fun X hX hE => ?_)
  have hX : mOK X RX2 cX2_secondOf 2 ⟨1, 0, 0, 25⟩ [] tys := hX
  refine r_lload_n hX dX2_secondOf_0 rfl rfl ?_
  refine r_ldc2 hX kc_X2_72 dX2_secondOf_1 ?_
  refine r_callS hX (c_J9_floorDiv_f86c9 _ _ _ _ (by decide)) ks_X2_100 rfl rfl (Nat.le_of_ble_eq_true rfl) ⟨(Nat.le_of_ble_eq_true rfl), (Nat.le_of_ble_eq_true rfl)⟩ ⟨(Nat.le_of_ble_eq_true rfl), (Nat.le_of_ble_eq_true rfl)⟩ dX2_secondOf_4 (fun _ _ z => False.elim z) (fun v9 ws9 h1 => ?_)
  obtain ⟨r3, rfl, hw9⟩ := h1
  subst ws9
  dsimp only [mPush]
  exact r_lret hX hE dX2_secondOf_7 (Nat.le_of_ble_eq_true rfl) (Nat.le_of_ble_eq_true rfl) ⟨_, rfl, rfl⟩
theorem dX2_nanoOf_0 : decode cX2_nanoOf 0 = .ok (.lload_n 0, 1) := by decide +kernel
theorem dX2_nanoOf_1 : decode cX2_nanoOf 1 = .ok (.ldc2_w 72, 3) := by decide +kernel
theorem dX2_nanoOf_4 : decode cX2_nanoOf 4 = .ok (.invokestatic 277, 3) := by decide +kernel
theorem dX2_nanoOf_7 : decode cX2_nanoOf 7 = .ok (.l2i, 1) := by decide +kernel
theorem dX2_nanoOf_8 : decode cX2_nanoOf 8 = .ok (.ireturn, 1) := by decide +kernel
set_option maxHeartbeats 4000000 in
set_option maxRecDepth 20000 in
theorem c_X2_nanoOf (tys : List (ClassId × FieldType)) (ws : va_W) (p0 : Int64) : mCt tys yX2_nanoOf cX2_nanoOf 2 (some .int) ⟨1, 0, 0, 25⟩ [.long p0] ws (mRi ws) mNo := by
  refine mCt.of (by decide +kernel) (Nat.le_of_ble_eq_true rfl) (fun X hX hE => ?_)
  have hX : mOK X RX2 cX2_nanoOf 2 ⟨1, 0, 0, 25⟩ [] tys := hX
  refine r_lload_n hX dX2_nanoOf_0 rfl rfl ?_
  refine r_ldc2 hX kc_X2_72 dX2_nanoOf_1 ?_
  refine r_callS hX (c_J9_floorMod_f86c9 _ _ _ _ (by decide)) ks_X2_277 rfl rfl (Nat.le_of_ble_eq_true rfl) ⟨(Nat.le_of_ble_eq_true rfl), (Nat.le_of_ble_eq_true rfl)⟩ ⟨(Nat.le_of_ble_eq_true rfl), (Nat.le_of_ble_eq_true rfl)⟩ dX2_nanoOf_4 (fun _ _ z => False.elim z) (fun v9 ws9 h1 => ?_)
  obtain ⟨r3, rfl, hw9⟩ := h1
  subst ws9
  dsimp only [mPush]
  refine r_l2i hX dX2_nanoOf_7 ?_
  exact r_iret hX hE dX2_nanoOf_8 (Nat.le_of_ble_eq_true rfl) (Nat.le_of_ble_eq_true rfl) ⟨_, rfl, rfl⟩
theorem dX2_added_0 : decode cX2_added 0 = .ok (.lload_n 0, 1) := by decide +kernel
theorem dX2_added_1 : decode cX2_added 1 = .ok (.ldc2_w 374, 3) := by decide +kernel
theorem dX2_added_4 : decode cX2_added 4 = .ok (.lmul, 1) := by decide +kernel
theorem dX2_added_5 : decode cX2_added 5 = .ok (.lload_n 2, 1) := by decide +kernel
theorem dX2_added_6 : decode cX2_added 6 = .ok (.ladd, 1) := by decide +kernel
theorem dX2_added_7 : decode cX2_added 7 = .ok (.lreturn, 1) := by decide +kernel
set_option maxHeartbeats 4000000 in
set_option maxRecDepth 20000 in
theorem c_X2_added (tys : List (ClassId × FieldType)) (ws : va_W) (p0 : Int64) (p1 : Int64) : mCt tys yX2_added cX2_added 4 (some .long) ⟨0, 0, 0, 0⟩ [.long p0, .long p1] ws (mRl ws) mNo := by
  refine mCt.of (by decide +kernel) (Nat.le_of_ble_eq_true rfl) (fun X hX hE => ?_)
  have hX : mOK X RX2 cX2_added 4 ⟨0, 0, 0, 0⟩ [] tys := hX
  refine r_lload_n hX dX2_added_0 rfl rfl ?_
  refine r_ldc2 hX kc_X2_374 dX2_added_1 ?_
  refine r_lmul hX dX2_added_4 ?_
  refine r_lload_n hX dX2_added_5 rfl rfl ?_
  refine r_ladd hX dX2_added_6 ?_
  exact r_lret hX hE dX2_added_7 (Nat.le_of_ble_eq_true rfl) (Nat.le_of_ble_eq_true rfl) ⟨_, rfl, rfl⟩
theorem dX1_tell_0 : decode cX1_tell 0 = .ok (.aload_n 0, 1) := by decide +kernel
theorem dX1_tell_1 : decode cX1_tell 1 = .ok (.lload_n 1, 1) := by decide +kernel
theorem dX1_tell_2 : decode cX1_tell 2 = .ok (.putfield 9, 3) := by decide +kernel
theorem dX1_tell_5 : decode cX1_tell 5 = .ok (.aload_n 0, 1) := by decide +kernel
theorem dX1_tell_6 : decode cX1_tell 6 = .ok (.iload_n 3, 1) := by decide +kernel
theorem dX1_tell_7 : decode cX1_tell 7 = .ok (.putfield 15, 3) := by decide +kernel
theorem dX1_tell_10 : decode cX1_tell 10 = .ok (.aload_n 0, 1) := by decide +kernel
theorem dX1_tell_11 : decode cX1_tell 11 = .ok (.iload 4, 2) := by decide +kernel
theorem dX1_tell_13 : decode cX1_tell 13 = .ok (.putfield 19, 3) := by decide +kernel
theorem dX1_tell_16 : decode cX1_tell 16 = .ok (.return_, 1) := by decide +kernel
theorem c_X1_tell (tys : List (ClassId × FieldType)) (ws : va_W) (qT aT : Nat) (sT : Int64) (nT oT : Int32) (hT : ws[qT]? = some (aT, .inr (2, [.long sT, .int nT, .int oT]))) (p0 : Int64) (p1 p2 : Int32) : mCt tys yX1_tell cX1_tell 5 none ⟨0, 0, 0, 0⟩ [.ref aT, .long p0, .int p1, .int p2] ws (fun v ws' => v = none ∧ ws' = ws.set qT (aT, .inr (2, [.long p0, .int p1, .int p2]))) mNo := by
  refine mCt.of (by decide +kernel) (Nat.le_of_ble_eq_true rfl) (fun X hX hE => ?_)
  have hX : mOK X RX1 cX1_tell 5 ⟨0, 0, 0, 0⟩ [] tys := hX
  have hq : qT < ws.length := (List.getElem?_eq_some_iff.mp hT).1
  refine r_aload_n hX dX1_tell_0 rfl rfl ?_
  refine r_lload_n hX dX1_tell_1 rfl rfl ?_
  refine r_put hX kf_X1_9 qT hT rfl rfl rfl (Nat.le_of_ble_eq_true rfl) dX1_tell_2 ?_
  refine r_aload_n hX dX1_tell_5 rfl rfl ?_
  refine r_iload_n hX dX1_tell_6 rfl rfl ?_
  refine r_put hX kf_X1_15 qT (List.getElem?_set_self hq) rfl rfl rfl (Nat.le_of_ble_eq_true rfl) dX1_tell_7 ?_
  rw [List.set_set]
  refine r_aload_n hX dX1_tell_10 rfl rfl ?_
  refine r_iload hX dX1_tell_11 rfl ?_
  refine r_put hX kf_X1_19 qT (List.getElem?_set_self hq) rfl rfl rfl (Nat.le_of_ble_eq_true rfl) dX1_tell_13 ?_
  rw [List.set_set]
  exact r_vret hX hE dX1_tell_16 (Nat.le_of_ble_eq_true rfl) (Nat.le_of_ble_eq_true rfl) ⟨rfl, rfl⟩
theorem dX1_momentSecond_0 : decode cX1_momentSecond 0 = .ok (.aload_n 0, 1) := by decide +kernel
theorem dX1_momentSecond_1 : decode cX1_momentSecond 1 = .ok (.getfield 9, 3) := by decide +kernel
theorem dX1_momentSecond_4 : decode cX1_momentSecond 4 = .ok (.aload_n 0, 1) := by decide +kernel
theorem dX1_momentSecond_5 : decode cX1_momentSecond 5 = .ok (.getfield 19, 3) := by decide +kernel
theorem dX1_momentSecond_8 : decode cX1_momentSecond 8 = .ok (.i2l, 1) := by decide +kernel
theorem dX1_momentSecond_9 : decode cX1_momentSecond 9 = .ok (.lsub, 1) := by decide +kernel
theorem dX1_momentSecond_10 : decode cX1_momentSecond 10 = .ok (.lreturn, 1) := by decide +kernel
set_option maxHeartbeats 4000000 in
set_option maxRecDepth 20000 in
theorem c_X1_momentSecond (tys : List (ClassId × FieldType)) (ws : va_W) (qT aT : Nat) (sT : Int64) (nT oT : Int32) (hT : ws[qT]? = some (aT, .inr (2, [.long sT, .int nT, .int oT]))) : mCt tys yX1_momentSecond cX1_momentSecond 1 (some .long) ⟨0, 0, 0, 0⟩ [.ref aT] ws (mRl ws) mNo := by
  refine mCt.of (by decide +kernel) (Nat.le_of_ble_eq_true rfl) (fun X hX hE => ?_)
  have hX : mOK X RX1 cX1_momentSecond 1 ⟨0, 0, 0, 0⟩ [] tys := hX
  refine r_aload_n hX dX1_momentSecond_0 rfl rfl ?_
  refine r_get hX kf_X1_9 qT hT rfl dX1_momentSecond_1 ?_
  refine r_aload_n hX dX1_momentSecond_4 rfl rfl ?_
  refine r_get hX kf_X1_19 qT hT rfl dX1_momentSecond_5 ?_
  refine r_i2l hX dX1_momentSecond_8 ?_
  refine r_lsub hX dX1_momentSecond_9 ?_
  exact r_lret hX hE dX1_momentSecond_10 (Nat.le_of_ble_eq_true rfl) (Nat.le_of_ble_eq_true rfl) ⟨_, rfl, rfl⟩
theorem dX1_day_0 : decode cX1_day 0 = .ok (.aload_n 0, 1) := by decide +kernel
theorem dX1_day_1 : decode cX1_day 1 = .ok (.getfield 9, 3) := by decide +kernel
theorem dX1_day_4 : decode cX1_day 4 = .ok (.ldc2_w 22, 3) := by decide +kernel
theorem dX1_day_7 : decode cX1_day 7 = .ok (.invokestatic 24, 3) := by decide +kernel
theorem dX1_day_10 : decode cX1_day 10 = .ok (.l2i, 1) := by decide +kernel
theorem dX1_day_11 : decode cX1_day 11 = .ok (.ireturn, 1) := by decide +kernel
set_option maxHeartbeats 4000000 in
set_option maxRecDepth 20000 in
theorem c_X1_day (tys : List (ClassId × FieldType)) (ws : va_W) (qT aT : Nat) (sT : Int64) (nT oT : Int32) (hT : ws[qT]? = some (aT, .inr (2, [.long sT, .int nT, .int oT]))) : mCt tys yX1_day cX1_day 1 (some .int) ⟨1, 0, 0, 25⟩ [.ref aT] ws (mRi ws) mNo := by
  refine mCt.of (by decide +kernel) (Nat.le_of_ble_eq_true rfl) (fun X hX hE => ?_)
  have hX : mOK X RX1 cX1_day 1 ⟨1, 0, 0, 25⟩ [] tys := hX
  refine r_aload_n hX dX1_day_0 rfl rfl ?_
  refine r_get hX kf_X1_9 qT hT rfl dX1_day_1 ?_
  refine r_ldc2 hX kc_X1_22 dX1_day_4 ?_
  refine r_callS hX (c_J9_floorDiv_f86c9 _ _ _ _ (by decide)) ks_X1_24 rfl rfl (Nat.le_of_ble_eq_true rfl) ⟨(Nat.le_of_ble_eq_true rfl), (Nat.le_of_ble_eq_true rfl)⟩ ⟨(Nat.le_of_ble_eq_true rfl), (Nat.le_of_ble_eq_true rfl)⟩ dX1_day_7 (fun _ _ z => False.elim z) (fun v9 ws9 h1 => ?_)
  obtain ⟨r3, rfl, hw9⟩ := h1
  subst ws9
  dsimp only [mPush]
  refine r_l2i hX dX1_day_10 ?_
  exact r_iret hX hE dX1_day_11 (Nat.le_of_ble_eq_true rfl) (Nat.le_of_ble_eq_true rfl) ⟨_, rfl, rfl⟩
theorem dX1_beginOfDay_0 : decode cX1_beginOfDay 0 = .ok (.aload_n 0, 1) := by decide +kernel
theorem dX1_beginOfDay_1 : decode cX1_beginOfDay 1 = .ok (.invokevirtual 30, 3) := by decide +kernel
theorem dX1_beginOfDay_4 : decode cX1_beginOfDay 4 = .ok (.i2l, 1) := by decide +kernel
theorem dX1_beginOfDay_5 : decode cX1_beginOfDay 5 = .ok (.ldc2_w 22, 3) := by decide +kernel
theorem dX1_beginOfDay_8 : decode cX1_beginOfDay 8 = .ok (.lmul, 1) := by decide +kernel
theorem dX1_beginOfDay_9 : decode cX1_beginOfDay 9 = .ok (.lreturn, 1) := by decide +kernel
set_option maxHeartbeats 4000000 in
set_option maxRecDepth 20000 in
theorem c_X1_beginOfDay (tys : List (ClassId × FieldType)) (ws : va_W) (qT aT : Nat) (sT : Int64) (nT oT : Int32) (hT : ws[qT]? = some (aT, .inr (2, [.long sT, .int nT, .int oT]))) : mCt tys yX1_beginOfDay cX1_beginOfDay 1 (some .long) ⟨2, 0, 0, 45⟩ [.ref aT] ws (mRl ws) mNo := by
  refine mCt.of (by decide +kernel) (Nat.le_of_ble_eq_true rfl) (fun X hX hE => ?_)
  have hX : mOK X RX1 cX1_beginOfDay 1 ⟨2, 0, 0, 45⟩ [] tys := hX
  refine r_aload_n hX dX1_beginOfDay_0 rfl rfl ?_
  refine r_callV hX (c_X1_day _ _ qT _ _ _ _ hT) kv_X1_30 qT hT rfl rfl rfl (Nat.le_of_ble_eq_true rfl) ⟨(Nat.le_of_ble_eq_true rfl), (Nat.le_of_ble_eq_true rfl)⟩ ⟨(Nat.le_of_ble_eq_true rfl), (Nat.le_of_ble_eq_true rfl)⟩ dX1_beginOfDay_1 (fun _ _ z => False.elim z) (fun v9 ws9 h1 => ?_)
  obtain ⟨r3, rfl, hw9⟩ := h1
  subst ws9
  dsimp only [mPush]
  refine r_i2l hX dX1_beginOfDay_4 ?_
  refine r_ldc2 hX kc_X1_22 dX1_beginOfDay_5 ?_
  refine r_lmul hX dX1_beginOfDay_8 ?_
  exact r_lret hX hE dX1_beginOfDay_9 (Nat.le_of_ble_eq_true rfl) (Nat.le_of_ble_eq_true rfl) ⟨_, rfl, rfl⟩
theorem dX1_secondOfDay_0 : decode cX1_secondOfDay 0 = .ok (.aload_n 0, 1) := by decide +kernel
theorem dX1_secondOfDay_1 : decode cX1_secondOfDay 1 = .ok (.getfield 9, 3) := by decide +kernel
theorem dX1_secondOfDay_4 : decode cX1_secondOfDay 4 = .ok (.ldc2_w 22, 3) := by decide +kernel
theorem dX1_secondOfDay_7 : decode cX1_secondOfDay 7 = .ok (.invokestatic 45, 3) := by decide +kernel
theorem dX1_secondOfDay_10 : decode cX1_secondOfDay 10 = .ok (.l2i, 1) := by decide +kernel
theorem dX1_secondOfDay_11 : decode cX1_secondOfDay 11 = .ok (.ireturn, 1) := by decide +kernel
set_option maxHeartbeats 4000000 in
set_option maxRecDepth 20000 in
theorem c_X1_secondOfDay (tys : List (ClassId × FieldType)) (ws : va_W) (qT aT : Nat) (sT : Int64) (nT oT : Int32) (hT : ws[qT]? = some (aT, .inr (2, [.long sT, .int nT, .int oT]))) : mCt tys yX1_secondOfDay cX1_secondOfDay 1 (some .int) ⟨1, 0, 0, 25⟩ [.ref aT] ws (mRi ws) mNo := by
  refine mCt.of (by decide +kernel) (Nat.le_of_ble_eq_true rfl) (fun X hX hE => ?_)
  have hX : mOK X RX1 cX1_secondOfDay 1 ⟨1, 0, 0, 25⟩ [] tys := hX
  refine r_aload_n hX dX1_secondOfDay_0 rfl rfl ?_
  refine r_get hX kf_X1_9 qT hT rfl dX1_secondOfDay_1 ?_
  refine r_ldc2 hX kc_X1_22 dX1_secondOfDay_4 ?_
  refine r_callS hX (c_J9_floorMod_f86c9 _ _ _ _ (by decide)) ks_X1_45 rfl rfl (Nat.le_of_ble_eq_true rfl) ⟨(Nat.le_of_ble_eq_true rfl), (Nat.le_of_ble_eq_true rfl)⟩ ⟨(Nat.le_of_ble_eq_true rfl), (Nat.le_of_ble_eq_true rfl)⟩ dX1_secondOfDay_7 (fun _ _ z => False.elim z) (fun v9 ws9 h1 => ?_)
  obtain ⟨r3, rfl, hw9⟩ := h1
  subst ws9
  dsimp only [mPush]
  refine r_l2i hX dX1_secondOfDay_10 ?_
  exact r_iret hX hE dX1_secondOfDay_11 (Nat.le_of_ble_eq_true rfl) (Nat.le_of_ble_eq_true rfl) ⟨_, rfl, rfl⟩
theorem dX1_hour_0 : decode cX1_hour 0 = .ok (.aload_n 0, 1) := by decide +kernel
theorem dX1_hour_1 : decode cX1_hour 1 = .ok (.invokevirtual 48, 3) := by decide +kernel
theorem dX1_hour_4 : decode cX1_hour 4 = .ok (.sipush 3600, 3) := by decide +kernel
theorem dX1_hour_7 : decode cX1_hour 7 = .ok (.idiv, 1) := by decide +kernel
theorem dX1_hour_8 : decode cX1_hour 8 = .ok (.ireturn, 1) := by decide +kernel
set_option maxHeartbeats 4000000 in
set_option maxRecDepth 20000 in
theorem c_X1_hour (tys : List (ClassId × FieldType)) (ws : va_W) (qT aT : Nat) (sT : Int64) (nT oT : Int32) (hT : ws[qT]? = some (aT, .inr (2, [.long sT, .int nT, .int oT]))) : mCt tys yX1_hour cX1_hour 1 (some .int) ⟨2, 0, 0, 45⟩ [.ref aT] ws (mRi ws) mNo := by
  refine mCt.of (by decide +kernel) (Nat.le_of_ble_eq_true rfl) (fun X hX hE => ?_)
  have hX : mOK X RX1 cX1_hour 1 ⟨2, 0, 0, 45⟩ [] tys := hX
  refine r_aload_n hX dX1_hour_0 rfl rfl ?_
  refine r_callV hX (c_X1_secondOfDay _ _ qT _ _ _ _ hT) kv_X1_48 qT hT rfl rfl rfl (Nat.le_of_ble_eq_true rfl) ⟨(Nat.le_of_ble_eq_true rfl), (Nat.le_of_ble_eq_true rfl)⟩ ⟨(Nat.le_of_ble_eq_true rfl), (Nat.le_of_ble_eq_true rfl)⟩ dX1_hour_1 (fun _ _ z => False.elim z) (fun v9 ws9 h1 => ?_)
  obtain ⟨r3, rfl, hw9⟩ := h1
  subst ws9
  dsimp only [mPush]
  refine r_sipush (v := 3600) hX dX1_hour_4 (by decide) ?_
  refine r_idiv hX dX1_hour_7 (by first | decide | assumption) ?_
  exact r_iret hX hE dX1_hour_8 (Nat.le_of_ble_eq_true rfl) (Nat.le_of_ble_eq_true rfl) ⟨_, rfl, rfl⟩
theorem dX1_minute_0 : decode cX1_minute 0 = .ok (.aload_n 0, 1) := by decide +kernel
theorem dX1_minute_1 : decode cX1_minute 1 = .ok (.invokevirtual 48, 3) := by decide +kernel
theorem dX1_minute_4 : decode cX1_minute 4 = .ok (.bipush 60, 2) := by decide +kernel
theorem dX1_minute_6 : decode cX1_minute 6 = .ok (.idiv, 1) := by decide +kernel
theorem dX1_minute_7 : decode cX1_minute 7 = .ok (.bipush 60, 2) := by decide +kernel
theorem dX1_minute_9 : decode cX1_minute 9 = .ok (.irem, 1) := by decide +kernel
theorem dX1_minute_10 : decode cX1_minute 10 = .ok (.ireturn, 1) := by decide +kernel
set_option maxHeartbeats 4000000 in
set_option maxRecDepth 20000 in
theorem c_X1_minute (tys : List (ClassId × FieldType)) (ws : va_W) (qT aT : Nat) (sT : Int64) (nT oT : Int32) (hT : ws[qT]? = some (aT, .inr (2, [.long sT, .int nT, .int oT]))) : mCt tys yX1_minute cX1_minute 1 (some .int) ⟨2, 0, 0, 45⟩ [.ref aT] ws (mRi ws) mNo := by
  refine mCt.of (by decide +kernel) (Nat.le_of_ble_eq_true rfl) (fun X hX hE => ?_)
  have hX : mOK X RX1 cX1_minute 1 ⟨2, 0, 0, 45⟩ [] tys := hX
  refine r_aload_n hX dX1_minute_0 rfl rfl ?_
  refine r_callV hX (c_X1_secondOfDay _ _ qT _ _ _ _ hT) kv_X1_48 qT hT rfl rfl rfl (Nat.le_of_ble_eq_true rfl) ⟨(Nat.le_of_ble_eq_true rfl), (Nat.le_of_ble_eq_true rfl)⟩ ⟨(Nat.le_of_ble_eq_true rfl), (Nat.le_of_ble_eq_true rfl)⟩ dX1_minute_1 (fun _ _ z => False.elim z) (fun v9 ws9 h1 => ?_)
  obtain ⟨r3, rfl, hw9⟩ := h1
  subst ws9
  dsimp only [mPush]
  refine r_bipush (v := 60) hX dX1_minute_4 (by decide) ?_
  refine r_idiv hX dX1_minute_6 (by first | decide | assumption) ?_
  refine r_bipush (v := 60) hX dX1_minute_7 (by decide) ?_
  refine r_irem hX dX1_minute_9 (by first | decide | assumption) ?_
  exact r_iret hX hE dX1_minute_10 (Nat.le_of_ble_eq_true rfl) (Nat.le_of_ble_eq_true rfl) ⟨_, rfl, rfl⟩
theorem dX1_secondOfMinute_0 : decode cX1_secondOfMinute 0 = .ok (.aload_n 0, 1) := by decide +kernel
theorem dX1_secondOfMinute_1 : decode cX1_secondOfMinute 1 = .ok (.invokevirtual 48, 3) := by decide +kernel
theorem dX1_secondOfMinute_4 : decode cX1_secondOfMinute 4 = .ok (.bipush 60, 2) := by decide +kernel
theorem dX1_secondOfMinute_6 : decode cX1_secondOfMinute 6 = .ok (.irem, 1) := by decide +kernel
theorem dX1_secondOfMinute_7 : decode cX1_secondOfMinute 7 = .ok (.ireturn, 1) := by decide +kernel
set_option maxHeartbeats 4000000 in
set_option maxRecDepth 20000 in
theorem c_X1_secondOfMinute (tys : List (ClassId × FieldType)) (ws : va_W) (qT aT : Nat) (sT : Int64) (nT oT : Int32) (hT : ws[qT]? = some (aT, .inr (2, [.long sT, .int nT, .int oT]))) : mCt tys yX1_secondOfMinute cX1_secondOfMinute 1 (some .int) ⟨2, 0, 0, 45⟩ [.ref aT] ws (mRi ws) mNo := by
  refine mCt.of (by decide +kernel) (Nat.le_of_ble_eq_true rfl) (fun X hX hE => ?_)
  have hX : mOK X RX1 cX1_secondOfMinute 1 ⟨2, 0, 0, 45⟩ [] tys := hX
  refine r_aload_n hX dX1_secondOfMinute_0 rfl rfl ?_
  refine r_callV hX (c_X1_secondOfDay _ _ qT _ _ _ _ hT) kv_X1_48 qT hT rfl rfl rfl (Nat.le_of_ble_eq_true rfl) ⟨(Nat.le_of_ble_eq_true rfl), (Nat.le_of_ble_eq_true rfl)⟩ ⟨(Nat.le_of_ble_eq_true rfl), (Nat.le_of_ble_eq_true rfl)⟩ dX1_secondOfMinute_1 (fun _ _ z => False.elim z) (fun v9 ws9 h1 => ?_)
  obtain ⟨r3, rfl, hw9⟩ := h1
  subst ws9
  dsimp only [mPush]
  refine r_bipush (v := 60) hX dX1_secondOfMinute_4 (by decide) ?_
  refine r_irem hX dX1_secondOfMinute_6 (by first | decide | assumption) ?_
  exact r_iret hX hE dX1_secondOfMinute_7 (Nat.le_of_ble_eq_true rfl) (Nat.le_of_ble_eq_true rfl) ⟨_, rfl, rfl⟩
theorem dX1_months_0 : decode cX1_months 0 = .ok (.aload_n 0, 1) := by decide +kernel
theorem dX1_months_1 : decode cX1_months 1 = .ok (.invokevirtual 30, 3) := by decide +kernel
theorem dX1_months_4 : decode cX1_months 4 = .ok (.invokestatic 34, 3) := by decide +kernel
theorem dX1_months_7 : decode cX1_months 7 = .ok (.i2l, 1) := by decide +kernel
theorem dX1_months_8 : decode cX1_months 8 = .ok (.ldc2_w 40, 3) := by decide +kernel
theorem dX1_months_11 : decode cX1_months 11 = .ok (.lmul, 1) := by decide +kernel
theorem dX1_months_12 : decode cX1_months 12 = .ok (.aload_n 0, 1) := by decide +kernel
theorem dX1_months_13 : decode cX1_months 13 = .ok (.invokevirtual 30, 3) := by decide +kernel
theorem dX1_months_16 : decode cX1_months 16 = .ok (.invokestatic 42, 3) := by decide +kernel
theorem dX1_months_19 : decode cX1_months 19 = .ok (.i2l, 1) := by decide +kernel
theorem dX1_months_20 : decode cX1_months 20 = .ok (.ladd, 1) := by decide +kernel
theorem dX1_months_21 : decode cX1_months 21 = .ok (.lconst 1, 1) := by decide +kernel
theorem dX1_months_22 : decode cX1_months 22 = .ok (.lsub, 1) := by decide +kernel
theorem dX1_months_23 : decode cX1_months 23 = .ok (.lreturn, 1) := by decide +kernel
set_option maxHeartbeats 4000000 in
set_option maxRecDepth 20000 in
theorem c_X1_months (tys : List (ClassId × FieldType)) (ws : va_W) (qT aT : Nat) (sT : Int64) (nT oT : Int32) (hT : ws[qT]? = some (aT, .inr (2, [.long sT, .int nT, .int oT]))) : mCt tys yX1_months cX1_months 1 (some .long) ⟨3, 0, 0, 65⟩ [.ref aT] ws (mRl ws) mNo := by
  refine mCt.of (by decide +kernel) (Nat.le_of_ble_eq_true rfl) (fun X hX hE => ?_)
  have hX : mOK X RX1 cX1_months 1 ⟨3, 0, 0, 65⟩ [] tys := hX
  refine r_aload_n hX dX1_months_0 rfl rfl ?_
  refine r_callV hX (c_X1_day _ _ qT _ _ _ _ hT) kv_X1_30 qT hT rfl rfl rfl (Nat.le_of_ble_eq_true rfl) ⟨(Nat.le_of_ble_eq_true rfl), (Nat.le_of_ble_eq_true rfl)⟩ ⟨(Nat.le_of_ble_eq_true rfl), (Nat.le_of_ble_eq_true rfl)⟩ dX1_months_1 (fun _ _ z => False.elim z) (fun v9 ws9 h1 => ?_)
  obtain ⟨r3, rfl, hw9⟩ := h1
  subst ws9
  dsimp only [mPush]
  refine r_callS hX (c_X0_yearOf _ _ _) ks_X1_34 rfl rfl (Nat.le_of_ble_eq_true rfl) ⟨(Nat.le_of_ble_eq_true rfl), (Nat.le_of_ble_eq_true rfl)⟩ ⟨(Nat.le_of_ble_eq_true rfl), (Nat.le_of_ble_eq_true rfl)⟩ dX1_months_4 (fun _ _ z => False.elim z) (fun v9 ws9 h4 => ?_)
  obtain ⟨r6, rfl, hw9⟩ := h4
  subst ws9
  dsimp only [mPush]
  refine r_i2l hX dX1_months_7 ?_
  refine r_ldc2 hX kc_X1_40 dX1_months_8 ?_
  refine r_lmul hX dX1_months_11 ?_
  refine r_aload_n hX dX1_months_12 rfl rfl ?_
  refine r_callV hX (c_X1_day _ _ qT _ _ _ _ hT) kv_X1_30 qT hT rfl rfl rfl (Nat.le_of_ble_eq_true rfl) ⟨(Nat.le_of_ble_eq_true rfl), (Nat.le_of_ble_eq_true rfl)⟩ ⟨(Nat.le_of_ble_eq_true rfl), (Nat.le_of_ble_eq_true rfl)⟩ dX1_months_13 (fun _ _ z => False.elim z) (fun v9 ws9 h7 => ?_)
  obtain ⟨r9, rfl, hw9⟩ := h7
  subst ws9
  dsimp only [mPush]
  refine r_callS hX (c_X0_monthOf _ _ _) ks_X1_42 rfl rfl (Nat.le_of_ble_eq_true rfl) ⟨(Nat.le_of_ble_eq_true rfl), (Nat.le_of_ble_eq_true rfl)⟩ ⟨(Nat.le_of_ble_eq_true rfl), (Nat.le_of_ble_eq_true rfl)⟩ dX1_months_16 (fun _ _ z => False.elim z) (fun v9 ws9 h10 => ?_)
  obtain ⟨r12, rfl, hw9⟩ := h10
  subst ws9
  dsimp only [mPush]
  refine r_i2l hX dX1_months_19 ?_
  refine r_ladd hX dX1_months_20 ?_
  refine r_lconst (v := 1) hX dX1_months_21 (by decide) ?_
  refine r_lsub hX dX1_months_22 ?_
  exact r_lret hX hE dX1_months_23 (Nat.le_of_ble_eq_true rfl) (Nat.le_of_ble_eq_true rfl) ⟨_, rfl, rfl⟩
theorem dX1_momentOrder_0 : decode cX1_momentOrder 0 = .ok (.aload_n 0, 1) := by decide +kernel
theorem dX1_momentOrder_1 : decode cX1_momentOrder 1 = .ok (.invokevirtual 55, 3) := by decide +kernel
theorem dX1_momentOrder_4 : decode cX1_momentOrder 4 = .ok (.aload_n 1, 1) := by decide +kernel
theorem dX1_momentOrder_5 : decode cX1_momentOrder 5 = .ok (.invokevirtual 55, 3) := by decide +kernel
theorem dX1_momentOrder_8 : decode cX1_momentOrder 8 = .ok (.invokestatic 59, 3) := by decide +kernel
theorem dX1_momentOrder_11 : decode cX1_momentOrder 11 = .ok (.istore_n 2, 1) := by decide +kernel
theorem dX1_momentOrder_12 : decode cX1_momentOrder 12 = .ok (.iload_n 2, 1) := by decide +kernel
theorem dX1_momentOrder_13 : decode cX1_momentOrder 13 = .ok (.ifCond .eq 7, 3) := by decide +kernel
theorem dX1_momentOrder_16 : decode cX1_momentOrder 16 = .ok (.iload_n 2, 1) := by decide +kernel
theorem dX1_momentOrder_17 : decode cX1_momentOrder 17 = .ok (.goto 16, 3) := by decide +kernel
theorem dX1_momentOrder_20 : decode cX1_momentOrder 20 = .ok (.aload_n 0, 1) := by decide +kernel
theorem dX1_momentOrder_21 : decode cX1_momentOrder 21 = .ok (.getfield 15, 3) := by decide +kernel
theorem dX1_momentOrder_24 : decode cX1_momentOrder 24 = .ok (.i2l, 1) := by decide +kernel
theorem dX1_momentOrder_25 : decode cX1_momentOrder 25 = .ok (.aload_n 1, 1) := by decide +kernel
theorem dX1_momentOrder_26 : decode cX1_momentOrder 26 = .ok (.getfield 15, 3) := by decide +kernel
theorem dX1_momentOrder_29 : decode cX1_momentOrder 29 = .ok (.i2l, 1) := by decide +kernel
theorem dX1_momentOrder_30 : decode cX1_momentOrder 30 = .ok (.invokestatic 59, 3) := by decide +kernel
theorem dX1_momentOrder_33 : decode cX1_momentOrder 33 = .ok (.ireturn, 1) := by decide +kernel
set_option maxHeartbeats 4000000 in
set_option maxRecDepth 20000 in
theorem c_X1_momentOrder (tys : List (ClassId × FieldType)) (ws : va_W) (qT aT : Nat) (sT : Int64) (nT oT : Int32) (hT : ws[qT]? = some (aT, .inr (2, [.long sT, .int nT, .int oT]))) (q0 a0 : Nat) (s0 : Int64) (n0 o0 : Int32) (h0 : ws[q0]? = some (a0, .inr (2, [.long s0, .int n0, .int o0]))) : mCt tys yX1_momentOrder cX1_momentOrder 3 (some .int) ⟨1, 0, 0, 23⟩ [.ref aT, .ref a0] ws (mRi ws) mNo := by
  refine mCt.of (by decide +kernel) (Nat.le_of_ble_eq_true rfl) (fun X hX hE => ?_)
  have hX : mOK X RX1 cX1_momentOrder 3 ⟨1, 0, 0, 23⟩ [] tys := hX
  refine r_aload_n hX dX1_momentOrder_0 rfl rfl ?_
  refine r_callV hX (c_X1_momentSecond _ _ qT _ _ _ _ hT) kv_X1_55 qT hT rfl rfl rfl (Nat.le_of_ble_eq_true rfl) ⟨(Nat.le_of_ble_eq_true rfl), (Nat.le_of_ble_eq_true rfl)⟩ ⟨(Nat.le_of_ble_eq_true rfl), (Nat.le_of_ble_eq_true rfl)⟩ dX1_momentOrder_1 (fun _ _ z => False.elim z) (fun v9 ws9 h1 => ?_)
  obtain ⟨r3, rfl, hw9⟩ := h1
  subst ws9
  dsimp only [mPush]
  refine r_aload_n hX dX1_momentOrder_4 rfl rfl ?_
  refine r_callV hX (c_X1_momentSecond _ _ q0 _ _ _ _ h0) kv_X1_55 q0 h0 rfl rfl rfl (Nat.le_of_ble_eq_true rfl) ⟨(Nat.le_of_ble_eq_true rfl), (Nat.le_of_ble_eq_true rfl)⟩ ⟨(Nat.le_of_ble_eq_true rfl), (Nat.le_of_ble_eq_true rfl)⟩ dX1_momentOrder_5 (fun _ _ z => False.elim z) (fun v9 ws9 h4 => ?_)
  obtain ⟨r6, rfl, hw9⟩ := h4
  subst ws9
  dsimp only [mPush]
  refine r_callN hX (c_X2_compared _ _ _ _) kn_X1_59 rfl rfl (Nat.le_of_ble_eq_true rfl) ⟨(Nat.le_of_ble_eq_true rfl), (Nat.le_of_ble_eq_true rfl)⟩ ⟨(Nat.le_of_ble_eq_true rfl), (Nat.le_of_ble_eq_true rfl)⟩ dX1_momentOrder_8 (fun _ _ z => False.elim z) (fun v9 ws9 h7 => ?_)
  obtain ⟨r9, rfl, hw9⟩ := h7
  subst ws9
  dsimp only [mPush]
  refine r_istore_n hX dX1_momentOrder_11 rfl (by decide) rfl ?_
  refine r_iload_n hX dX1_momentOrder_12 rfl rfl ?_
  refine r_if_eq (tgt := 20) hX dX1_momentOrder_13 (by decide) (fun c10 => ?_) (fun c10 => ?_)
  · refine r_aload_n hX dX1_momentOrder_20 rfl rfl ?_
    refine r_get hX kf_X1_15 qT hT rfl dX1_momentOrder_21 ?_
    refine r_i2l hX dX1_momentOrder_24 ?_
    refine r_aload_n hX dX1_momentOrder_25 rfl rfl ?_
    refine r_get hX kf_X1_15 q0 h0 rfl dX1_momentOrder_26 ?_
    refine r_i2l hX dX1_momentOrder_29 ?_
    refine r_callN hX (c_X2_compared _ _ _ _) kn_X1_59 rfl rfl (Nat.le_of_ble_eq_true rfl) ⟨(Nat.le_of_ble_eq_true rfl), (Nat.le_of_ble_eq_true rfl)⟩ ⟨(Nat.le_of_ble_eq_true rfl), (Nat.le_of_ble_eq_true rfl)⟩ dX1_momentOrder_30 (fun _ _ z => False.elim z) (fun v9 ws9 h11 => ?_)
    obtain ⟨r13, rfl, hw9⟩ := h11
    subst ws9
    dsimp only [mPush]
    exact r_iret hX hE dX1_momentOrder_33 (Nat.le_of_ble_eq_true rfl) (Nat.le_of_ble_eq_true rfl) ⟨_, rfl, rfl⟩
  · refine r_iload_n hX dX1_momentOrder_16 rfl rfl ?_
    refine r_goto (tgt := 33) hX dX1_momentOrder_17 (by decide) ?_
    exact r_iret hX hE dX1_momentOrder_33 (Nat.le_of_ble_eq_true rfl) (Nat.le_of_ble_eq_true rfl) ⟨_, rfl, rfl⟩
theorem dX1_isAhead_0 : decode cX1_isAhead 0 = .ok (.aload_n 0, 1) := by decide +kernel
theorem dX1_isAhead_1 : decode cX1_isAhead 1 = .ok (.aload_n 1, 1) := by decide +kernel
theorem dX1_isAhead_2 : decode cX1_isAhead 2 = .ok (.invokevirtual 51, 3) := by decide +kernel
theorem dX1_isAhead_5 : decode cX1_isAhead 5 = .ok (.ifCond .ge 7, 3) := by decide +kernel
theorem dX1_isAhead_8 : decode cX1_isAhead 8 = .ok (.iconst 1, 1) := by decide +kernel
theorem dX1_isAhead_9 : decode cX1_isAhead 9 = .ok (.goto 4, 3) := by decide +kernel
theorem dX1_isAhead_12 : decode cX1_isAhead 12 = .ok (.iconst 0, 1) := by decide +kernel
theorem dX1_isAhead_13 : decode cX1_isAhead 13 = .ok (.ireturn, 1) := by decide +kernel
set_option maxHeartbeats 4000000 in
set_option maxRecDepth 20000 in
theorem c_X1_isAhead (tys : List (ClassId × FieldType)) (ws : va_W) (qT aT : Nat) (sT : Int64) (nT oT : Int32) (hT : ws[qT]? = some (aT, .inr (2, [.long sT, .int nT, .int oT]))) (q0 a0 : Nat) (s0 : Int64) (n0 o0 : Int32) (h0 : ws[q0]? = some (a0, .inr (2, [.long s0, .int n0, .int o0]))) : mCt tys yX1_isAhead cX1_isAhead 2 (some .boolean) ⟨2, 0, 0, 45⟩ [.ref aT, .ref a0] ws (mRb ws) mNo := by
  refine mCt.of (by decide +kernel) (Nat.le_of_ble_eq_true rfl) (fun X hX hE => ?_)
  have hX : mOK X RX1 cX1_isAhead 2 ⟨2, 0, 0, 45⟩ [] tys := hX
  refine r_aload_n hX dX1_isAhead_0 rfl rfl ?_
  refine r_aload_n hX dX1_isAhead_1 rfl rfl ?_
  refine r_callV hX (c_X1_momentOrder _ _ qT _ _ _ _ hT q0 _ _ _ _ h0) kv_X1_51 qT hT rfl rfl rfl (Nat.le_of_ble_eq_true rfl) ⟨(Nat.le_of_ble_eq_true rfl), (Nat.le_of_ble_eq_true rfl)⟩ ⟨(Nat.le_of_ble_eq_true rfl), (Nat.le_of_ble_eq_true rfl)⟩ dX1_isAhead_2 (fun _ _ z => False.elim z) (fun v9 ws9 h1 => ?_)
  obtain ⟨r3, rfl, hw9⟩ := h1
  subst ws9
  dsimp only [mPush]
  refine r_if_ge (tgt := 12) hX dX1_isAhead_5 (by decide) (fun c4 => ?_) (fun c4 => ?_)
  · refine r_iconst (v := 0) hX dX1_isAhead_12 (by decide) ?_
    exact r_zret hX hE dX1_isAhead_13 (mB_n (Or.inl rfl)) (Nat.le_of_ble_eq_true rfl) (Nat.le_of_ble_eq_true rfl) ⟨_, (Or.inl rfl), rfl, rfl⟩
  · refine r_iconst (v := 1) hX dX1_isAhead_8 (by decide) ?_
    refine r_goto (tgt := 13) hX dX1_isAhead_9 (by decide) ?_
    exact r_zret hX hE dX1_isAhead_13 (mB_n (Or.inr rfl)) (Nat.le_of_ble_eq_true rfl) (Nat.le_of_ble_eq_true rfl) ⟨_, (Or.inr rfl), rfl, rfl⟩
theorem dX1_isAlike_0 : decode cX1_isAlike 0 = .ok (.aload_n 0, 1) := by decide +kernel
theorem dX1_isAlike_1 : decode cX1_isAlike 1 = .ok (.invokevirtual 55, 3) := by decide +kernel
theorem dX1_isAlike_4 : decode cX1_isAlike 4 = .ok (.aload_n 1, 1) := by decide +kernel
theorem dX1_isAlike_5 : decode cX1_isAlike 5 = .ok (.invokevirtual 55, 3) := by decide +kernel
theorem dX1_isAlike_8 : decode cX1_isAlike 8 = .ok (.lcmp, 1) := by decide +kernel
theorem dX1_isAlike_9 : decode cX1_isAlike 9 = .ok (.ifCond .ne 18, 3) := by decide +kernel
theorem dX1_isAlike_12 : decode cX1_isAlike 12 = .ok (.aload_n 0, 1) := by decide +kernel
theorem dX1_isAlike_13 : decode cX1_isAlike 13 = .ok (.getfield 15, 3) := by decide +kernel
theorem dX1_isAlike_16 : decode cX1_isAlike 16 = .ok (.aload_n 1, 1) := by decide +kernel
theorem dX1_isAlike_17 : decode cX1_isAlike 17 = .ok (.getfield 15, 3) := by decide +kernel
theorem dX1_isAlike_20 : decode cX1_isAlike 20 = .ok (.if_icmp .ne 7, 3) := by decide +kernel
theorem dX1_isAlike_23 : decode cX1_isAlike 23 = .ok (.iconst 1, 1) := by decide +kernel
theorem dX1_isAlike_24 : decode cX1_isAlike 24 = .ok (.goto 4, 3) := by decide +kernel
theorem dX1_isAlike_27 : decode cX1_isAlike 27 = .ok (.iconst 0, 1) := by decide +kernel
theorem dX1_isAlike_28 : decode cX1_isAlike 28 = .ok (.ireturn, 1) := by decide +kernel
set_option maxHeartbeats 4000000 in
set_option maxRecDepth 20000 in
theorem c_X1_isAlike (tys : List (ClassId × FieldType)) (ws : va_W) (qT aT : Nat) (sT : Int64) (nT oT : Int32) (hT : ws[qT]? = some (aT, .inr (2, [.long sT, .int nT, .int oT]))) (q0 a0 : Nat) (s0 : Int64) (n0 o0 : Int32) (h0 : ws[q0]? = some (a0, .inr (2, [.long s0, .int n0, .int o0]))) : mCt tys yX1_isAlike cX1_isAlike 2 (some .boolean) ⟨1, 0, 0, 20⟩ [.ref aT, .ref a0] ws (mRb ws) mNo := by
  refine mCt.of (by decide +kernel) (Nat.le_of_ble_eq_true rfl) (fun X hX hE => ?_)
  have hX : mOK X RX1 cX1_isAlike 2 ⟨1, 0, 0, 20⟩ [] tys := hX
  refine r_aload_n hX dX1_isAlike_0 rfl rfl ?_
  refine r_callV hX (c_X1_momentSecond _ _ qT _ _ _ _ hT) kv_X1_55 qT hT rfl rfl rfl (Nat.le_of_ble_eq_true rfl) ⟨(Nat.le_of_ble_eq_true rfl), (Nat.le_of_ble_eq_true rfl)⟩ ⟨(Nat.le_of_ble_eq_true rfl), (Nat.le_of_ble_eq_true rfl)⟩ dX1_isAlike_1 (fun _ _ z => False.elim z) (fun v9 ws9 h1 => ?_)
  obtain ⟨r3, rfl, hw9⟩ := h1
  subst ws9
  dsimp only [mPush]
  refine r_aload_n hX dX1_isAlike_4 rfl rfl ?_
  refine r_callV hX (c_X1_momentSecond _ _ q0 _ _ _ _ h0) kv_X1_55 q0 h0 rfl rfl rfl (Nat.le_of_ble_eq_true rfl) ⟨(Nat.le_of_ble_eq_true rfl), (Nat.le_of_ble_eq_true rfl)⟩ ⟨(Nat.le_of_ble_eq_true rfl), (Nat.le_of_ble_eq_true rfl)⟩ dX1_isAlike_5 (fun _ _ z => False.elim z) (fun v9 ws9 h4 => ?_)
  obtain ⟨r6, rfl, hw9⟩ := h4
  subst ws9
  dsimp only [mPush]
  refine r_lcmp hX dX1_isAlike_8 ?_
  refine r_if_ne (tgt := 27) hX dX1_isAlike_9 (by decide) (fun c7 => ?_) (fun c7 => ?_)
  · refine r_iconst (v := 0) hX dX1_isAlike_27 (by decide) ?_
    exact r_zret hX hE dX1_isAlike_28 (mB_n (Or.inl rfl)) (Nat.le_of_ble_eq_true rfl) (Nat.le_of_ble_eq_true rfl) ⟨_, (Or.inl rfl), rfl, rfl⟩
  · refine r_aload_n hX dX1_isAlike_12 rfl rfl ?_
    refine r_get hX kf_X1_15 qT hT rfl dX1_isAlike_13 ?_
    refine r_aload_n hX dX1_isAlike_16 rfl rfl ?_
    refine r_get hX kf_X1_15 q0 h0 rfl dX1_isAlike_17 ?_
    refine r_icmp_ne (tgt := 27) hX dX1_isAlike_20 (by decide) (fun c8 => ?_) (fun c8 => ?_)
    · refine r_iconst (v := 0) hX dX1_isAlike_27 (by decide) ?_
      exact r_zret hX hE dX1_isAlike_28 (mB_n (Or.inl rfl)) (Nat.le_of_ble_eq_true rfl) (Nat.le_of_ble_eq_true rfl) ⟨_, (Or.inl rfl), rfl, rfl⟩
    · refine r_iconst (v := 1) hX dX1_isAlike_23 (by decide) ?_
      refine r_goto (tgt := 28) hX dX1_isAlike_24 (by decide) ?_
      exact r_zret hX hE dX1_isAlike_28 (mB_n (Or.inr rfl)) (Nat.le_of_ble_eq_true rfl) (Nat.le_of_ble_eq_true rfl) ⟨_, (Or.inr rfl), rfl, rfl⟩
theorem dX1_isSame_0 : decode cX1_isSame 0 = .ok (.aload_n 0, 1) := by decide +kernel
theorem dX1_isSame_1 : decode cX1_isSame 1 = .ok (.getfield 9, 3) := by decide +kernel
theorem dX1_isSame_4 : decode cX1_isSame 4 = .ok (.aload_n 1, 1) := by decide +kernel
theorem dX1_isSame_5 : decode cX1_isSame 5 = .ok (.getfield 9, 3) := by decide +kernel
theorem dX1_isSame_8 : decode cX1_isSame 8 = .ok (.lcmp, 1) := by decide +kernel
theorem dX1_isSame_9 : decode cX1_isSame 9 = .ok (.ifCond .ne 29, 3) := by decide +kernel
theorem dX1_isSame_12 : decode cX1_isSame 12 = .ok (.aload_n 0, 1) := by decide +kernel
theorem dX1_isSame_13 : decode cX1_isSame 13 = .ok (.getfield 15, 3) := by decide +kernel
theorem dX1_isSame_16 : decode cX1_isSame 16 = .ok (.aload_n 1, 1) := by decide +kernel
theorem dX1_isSame_17 : decode cX1_isSame 17 = .ok (.getfield 15, 3) := by decide +kernel
theorem dX1_isSame_20 : decode cX1_isSame 20 = .ok (.if_icmp .ne 18, 3) := by decide +kernel
theorem dX1_isSame_23 : decode cX1_isSame 23 = .ok (.aload_n 0, 1) := by decide +kernel
theorem dX1_isSame_24 : decode cX1_isSame 24 = .ok (.getfield 19, 3) := by decide +kernel
theorem dX1_isSame_27 : decode cX1_isSame 27 = .ok (.aload_n 1, 1) := by decide +kernel
theorem dX1_isSame_28 : decode cX1_isSame 28 = .ok (.getfield 19, 3) := by decide +kernel
theorem dX1_isSame_31 : decode cX1_isSame 31 = .ok (.if_icmp .ne 7, 3) := by decide +kernel
theorem dX1_isSame_34 : decode cX1_isSame 34 = .ok (.iconst 1, 1) := by decide +kernel
theorem dX1_isSame_35 : decode cX1_isSame 35 = .ok (.goto 4, 3) := by decide +kernel
theorem dX1_isSame_38 : decode cX1_isSame 38 = .ok (.iconst 0, 1) := by decide +kernel
theorem dX1_isSame_39 : decode cX1_isSame 39 = .ok (.ireturn, 1) := by decide +kernel
set_option maxHeartbeats 4000000 in
set_option maxRecDepth 20000 in
theorem c_X1_isSame (tys : List (ClassId × FieldType)) (ws : va_W) (qT aT : Nat) (sT : Int64) (nT oT : Int32) (hT : ws[qT]? = some (aT, .inr (2, [.long sT, .int nT, .int oT]))) (q0 a0 : Nat) (s0 : Int64) (n0 o0 : Int32) (h0 : ws[q0]? = some (a0, .inr (2, [.long s0, .int n0, .int o0]))) : mCt tys yX1_isSame cX1_isSame 2 (some .boolean) ⟨0, 0, 0, 0⟩ [.ref aT, .ref a0] ws (mRb ws) mNo := by
  refine mCt.of (by decide +kernel) (Nat.le_of_ble_eq_true rfl) (fun X hX hE => ?_)
  have hX : mOK X RX1 cX1_isSame 2 ⟨0, 0, 0, 0⟩ [] tys := hX
  refine r_aload_n hX dX1_isSame_0 rfl rfl ?_
  refine r_get hX kf_X1_9 qT hT rfl dX1_isSame_1 ?_
  refine r_aload_n hX dX1_isSame_4 rfl rfl ?_
  refine r_get hX kf_X1_9 q0 h0 rfl dX1_isSame_5 ?_
  refine r_lcmp hX dX1_isSame_8 ?_
  refine r_if_ne (tgt := 38) hX dX1_isSame_9 (by decide) (fun c1 => ?_) (fun c1 => ?_)
  · refine r_iconst (v := 0) hX dX1_isSame_38 (by decide) ?_
    exact r_zret hX hE dX1_isSame_39 (mB_n (Or.inl rfl)) (Nat.le_of_ble_eq_true rfl) (Nat.le_of_ble_eq_true rfl) ⟨_, (Or.inl rfl), rfl, rfl⟩
  · refine r_aload_n hX dX1_isSame_12 rfl rfl ?_
    refine r_get hX kf_X1_15 qT hT rfl dX1_isSame_13 ?_
    refine r_aload_n hX dX1_isSame_16 rfl rfl ?_
    refine r_get hX kf_X1_15 q0 h0 rfl dX1_isSame_17 ?_
    refine r_icmp_ne (tgt := 38) hX dX1_isSame_20 (by decide) (fun c2 => ?_) (fun c2 => ?_)
    · refine r_iconst (v := 0) hX dX1_isSame_38 (by decide) ?_
      exact r_zret hX hE dX1_isSame_39 (mB_n (Or.inl rfl)) (Nat.le_of_ble_eq_true rfl) (Nat.le_of_ble_eq_true rfl) ⟨_, (Or.inl rfl), rfl, rfl⟩
    · refine r_aload_n hX dX1_isSame_23 rfl rfl ?_
      refine r_get hX kf_X1_19 qT hT rfl dX1_isSame_24 ?_
      refine r_aload_n hX dX1_isSame_27 rfl rfl ?_
      refine r_get hX kf_X1_19 q0 h0 rfl dX1_isSame_28 ?_
      refine r_icmp_ne (tgt := 38) hX dX1_isSame_31 (by decide) (fun c3 => ?_) (fun c3 => ?_)
      · refine r_iconst (v := 0) hX dX1_isSame_38 (by decide) ?_
        exact r_zret hX hE dX1_isSame_39 (mB_n (Or.inl rfl)) (Nat.le_of_ble_eq_true rfl) (Nat.le_of_ble_eq_true rfl) ⟨_, (Or.inl rfl), rfl, rfl⟩
      · refine r_iconst (v := 1) hX dX1_isSame_34 (by decide) ?_
        refine r_goto (tgt := 39) hX dX1_isSame_35 (by decide) ?_
        exact r_zret hX hE dX1_isSame_39 (mB_n (Or.inr rfl)) (Nat.le_of_ble_eq_true rfl) (Nat.le_of_ble_eq_true rfl) ⟨_, (Or.inr rfl), rfl, rfl⟩
theorem dX1_orderTo_0 : decode cX1_orderTo 0 = .ok (.aload_n 0, 1) := by decide +kernel
theorem dX1_orderTo_1 : decode cX1_orderTo 1 = .ok (.aload_n 1, 1) := by decide +kernel
theorem dX1_orderTo_2 : decode cX1_orderTo 2 = .ok (.invokevirtual 51, 3) := by decide +kernel
theorem dX1_orderTo_5 : decode cX1_orderTo 5 = .ok (.istore_n 2, 1) := by decide +kernel
theorem dX1_orderTo_6 : decode cX1_orderTo 6 = .ok (.iload_n 2, 1) := by decide +kernel
theorem dX1_orderTo_7 : decode cX1_orderTo 7 = .ok (.ifCond .eq 7, 3) := by decide +kernel
theorem dX1_orderTo_10 : decode cX1_orderTo 10 = .ok (.iload_n 2, 1) := by decide +kernel
theorem dX1_orderTo_11 : decode cX1_orderTo 11 = .ok (.goto 14, 3) := by decide +kernel
theorem dX1_orderTo_14 : decode cX1_orderTo 14 = .ok (.aload_n 0, 1) := by decide +kernel
theorem dX1_orderTo_15 : decode cX1_orderTo 15 = .ok (.getfield 9, 3) := by decide +kernel
theorem dX1_orderTo_18 : decode cX1_orderTo 18 = .ok (.aload_n 1, 1) := by decide +kernel
theorem dX1_orderTo_19 : decode cX1_orderTo 19 = .ok (.getfield 9, 3) := by decide +kernel
theorem dX1_orderTo_22 : decode cX1_orderTo 22 = .ok (.invokestatic 59, 3) := by decide +kernel
theorem dX1_orderTo_25 : decode cX1_orderTo 25 = .ok (.ireturn, 1) := by decide +kernel
set_option maxHeartbeats 4000000 in
set_option maxRecDepth 20000 in
theorem c_X1_orderTo (tys : List (ClassId × FieldType)) (ws : va_W) (qT aT : Nat) (sT : Int64) (nT oT : Int32) (hT : ws[qT]? = some (aT, .inr (2, [.long sT, .int nT, .int oT]))) (q0 a0 : Nat) (s0 : Int64) (n0 o0 : Int32) (h0 : ws[q0]? = some (a0, .inr (2, [.long s0, .int n0, .int o0]))) : mCt tys yX1_orderTo cX1_orderTo 3 (some .int) ⟨2, 0, 0, 45⟩ [.ref aT, .ref a0] ws (mRi ws) mNo := by
  refine mCt.of (by decide +kernel) (Nat.le_of_ble_eq_true rfl) (fun X hX hE => ?_)
  have hX : mOK X RX1 cX1_orderTo 3 ⟨2, 0, 0, 45⟩ [] tys := hX
  refine r_aload_n hX dX1_orderTo_0 rfl rfl ?_
  refine r_aload_n hX dX1_orderTo_1 rfl rfl ?_
  refine r_callV hX (c_X1_momentOrder _ _ qT _ _ _ _ hT q0 _ _ _ _ h0) kv_X1_51 qT hT rfl rfl rfl (Nat.le_of_ble_eq_true rfl) ⟨(Nat.le_of_ble_eq_true rfl), (Nat.le_of_ble_eq_true rfl)⟩ ⟨(Nat.le_of_ble_eq_true rfl), (Nat.le_of_ble_eq_true rfl)⟩ dX1_orderTo_2 (fun _ _ z => False.elim z) (fun v9 ws9 h1 => ?_)
  obtain ⟨r3, rfl, hw9⟩ := h1
  subst ws9
  dsimp only [mPush]
  refine r_istore_n hX dX1_orderTo_5 rfl (by decide) rfl ?_
  refine r_iload_n hX dX1_orderTo_6 rfl rfl ?_
  refine r_if_eq (tgt := 14) hX dX1_orderTo_7 (by decide) (fun c4 => ?_) (fun c4 => ?_)
  · refine r_aload_n hX dX1_orderTo_14 rfl rfl ?_
    refine r_get hX kf_X1_9 qT hT rfl dX1_orderTo_15 ?_
    refine r_aload_n hX dX1_orderTo_18 rfl rfl ?_
    refine r_get hX kf_X1_9 q0 h0 rfl dX1_orderTo_19 ?_
    refine r_callN hX (c_X2_compared _ _ _ _) kn_X1_59 rfl rfl (Nat.le_of_ble_eq_true rfl) ⟨(Nat.le_of_ble_eq_true rfl), (Nat.le_of_ble_eq_true rfl)⟩ ⟨(Nat.le_of_ble_eq_true rfl), (Nat.le_of_ble_eq_true rfl)⟩ dX1_orderTo_22 (fun _ _ z => False.elim z) (fun v9 ws9 h5 => ?_)
    obtain ⟨r7, rfl, hw9⟩ := h5
    subst ws9
    dsimp only [mPush]
    exact r_iret hX hE dX1_orderTo_25 (Nat.le_of_ble_eq_true rfl) (Nat.le_of_ble_eq_true rfl) ⟨_, rfl, rfl⟩
  · refine r_iload_n hX dX1_orderTo_10 rfl rfl ?_
    refine r_goto (tgt := 25) hX dX1_orderTo_11 (by decide) ?_
    exact r_iret hX hE dX1_orderTo_25 (Nat.le_of_ble_eq_true rfl) (Nat.le_of_ble_eq_true rfl) ⟨_, rfl, rfl⟩
theorem dX2_numberOf_0 : decode cX2_numberOf 0 = .ok (.aload_n 0, 1) := by decide +kernel
theorem dX2_numberOf_1 : decode cX2_numberOf 1 = .ok (.invokevirtual 169, 3) := by decide +kernel
theorem dX2_numberOf_4 : decode cX2_numberOf 4 = .ok (.ldc2_w 72, 3) := by decide +kernel
theorem dX2_numberOf_7 : decode cX2_numberOf 7 = .ok (.lmul, 1) := by decide +kernel
theorem dX2_numberOf_8 : decode cX2_numberOf 8 = .ok (.aload_n 0, 1) := by decide +kernel
theorem dX2_numberOf_9 : decode cX2_numberOf 9 = .ok (.getfield 172, 3) := by decide +kernel
theorem dX2_numberOf_12 : decode cX2_numberOf 12 = .ok (.i2l, 1) := by decide +kernel
theorem dX2_numberOf_13 : decode cX2_numberOf 13 = .ok (.ladd, 1) := by decide +kernel
theorem dX2_numberOf_14 : decode cX2_numberOf 14 = .ok (.lreturn, 1) := by decide +kernel
set_option maxHeartbeats 4000000 in
set_option maxRecDepth 20000 in
theorem c_X2_numberOf (tys : List (ClassId × FieldType)) (ws : va_W) (q0 a0 : Nat) (s0 : Int64) (n0 o0 : Int32) (h0 : ws[q0]? = some (a0, .inr (2, [.long s0, .int n0, .int o0]))) : mCt tys yX2_numberOf cX2_numberOf 1 (some .long) ⟨1, 0, 0, 20⟩ [.ref a0] ws (mRl ws) mNo := by
  refine mCt.of (by decide +kernel) (Nat.le_of_ble_eq_true rfl) (fun X hX hE => ?_)
  have hX : mOK X RX2 cX2_numberOf 1 ⟨1, 0, 0, 20⟩ [] tys := hX
  refine r_aload_n hX dX2_numberOf_0 rfl rfl ?_
  refine r_callV hX (c_X1_momentSecond _ _ q0 _ _ _ _ h0) kv_X2_169 q0 h0 rfl rfl rfl (Nat.le_of_ble_eq_true rfl) ⟨(Nat.le_of_ble_eq_true rfl), (Nat.le_of_ble_eq_true rfl)⟩ ⟨(Nat.le_of_ble_eq_true rfl), (Nat.le_of_ble_eq_true rfl)⟩ dX2_numberOf_1 (fun _ _ z => False.elim z) (fun v9 ws9 h1 => ?_)
  obtain ⟨r3, rfl, hw9⟩ := h1
  subst ws9
  dsimp only [mPush]
  refine r_ldc2 hX kc_X2_72 dX2_numberOf_4 ?_
  refine r_lmul hX dX2_numberOf_7 ?_
  refine r_aload_n hX dX2_numberOf_8 rfl rfl ?_
  refine r_getN hX kg_X2_172 q0 h0 rfl dX2_numberOf_9 ?_
  refine r_i2l hX dX2_numberOf_12 ?_
  refine r_ladd hX dX2_numberOf_13 ?_
  exact r_lret hX hE dX2_numberOf_14 (Nat.le_of_ble_eq_true rfl) (Nat.le_of_ble_eq_true rfl) ⟨_, rfl, rfl⟩
theorem dX2_secondsOn_0 : decode cX2_secondsOn 0 = .ok (.iload_n 1, 1) := by decide +kernel
theorem dX2_secondsOn_1 : decode cX2_secondsOn 1 = .ok (.tableswitch 65 2 6 #[35, 45, 51, 57, 63], 35) := by decide +kernel
theorem dX2_secondsOn_36 : decode cX2_secondsOn 36 = .ok (.lload_n 2, 1) := by decide +kernel
theorem dX2_secondsOn_37 : decode cX2_secondsOn 37 = .ok (.ldc2_w 302, 3) := by decide +kernel
theorem dX2_secondsOn_40 : decode cX2_secondsOn 40 = .ok (.lmul, 1) := by decide +kernel
theorem dX2_secondsOn_41 : decode cX2_secondsOn 41 = .ok (.ldc2_w 130, 3) := by decide +kernel
theorem dX2_secondsOn_44 : decode cX2_secondsOn 44 = .ok (.lmul, 1) := by decide +kernel
theorem dX2_secondsOn_45 : decode cX2_secondsOn 45 = .ok (.lreturn, 1) := by decide +kernel
theorem dX2_secondsOn_46 : decode cX2_secondsOn 46 = .ok (.lload_n 2, 1) := by decide +kernel
theorem dX2_secondsOn_47 : decode cX2_secondsOn 47 = .ok (.ldc2_w 130, 3) := by decide +kernel
theorem dX2_secondsOn_50 : decode cX2_secondsOn 50 = .ok (.lmul, 1) := by decide +kernel
theorem dX2_secondsOn_51 : decode cX2_secondsOn 51 = .ok (.lreturn, 1) := by decide +kernel
theorem dX2_secondsOn_52 : decode cX2_secondsOn 52 = .ok (.lload_n 2, 1) := by decide +kernel
theorem dX2_secondsOn_53 : decode cX2_secondsOn 53 = .ok (.ldc2_w 304, 3) := by decide +kernel
theorem dX2_secondsOn_56 : decode cX2_secondsOn 56 = .ok (.lmul, 1) := by decide +kernel
theorem dX2_secondsOn_57 : decode cX2_secondsOn 57 = .ok (.lreturn, 1) := by decide +kernel
theorem dX2_secondsOn_58 : decode cX2_secondsOn 58 = .ok (.lload_n 2, 1) := by decide +kernel
theorem dX2_secondsOn_59 : decode cX2_secondsOn 59 = .ok (.ldc2_w 306, 3) := by decide +kernel
theorem dX2_secondsOn_62 : decode cX2_secondsOn 62 = .ok (.lmul, 1) := by decide +kernel
theorem dX2_secondsOn_63 : decode cX2_secondsOn 63 = .ok (.lreturn, 1) := by decide +kernel
theorem dX2_secondsOn_64 : decode cX2_secondsOn 64 = .ok (.lload_n 2, 1) := by decide +kernel
theorem dX2_secondsOn_65 : decode cX2_secondsOn 65 = .ok (.lreturn, 1) := by decide +kernel
theorem dX2_secondsOn_66 : decode cX2_secondsOn 66 = .ok (.aload_n 0, 1) := by decide +kernel
theorem dX2_secondsOn_67 : decode cX2_secondsOn 67 = .ok (.getfield 172, 3) := by decide +kernel
theorem dX2_secondsOn_70 : decode cX2_secondsOn 70 = .ok (.i2l, 1) := by decide +kernel
theorem dX2_secondsOn_71 : decode cX2_secondsOn 71 = .ok (.lload_n 2, 1) := by decide +kernel
theorem dX2_secondsOn_72 : decode cX2_secondsOn 72 = .ok (.ladd, 1) := by decide +kernel
theorem dX2_secondsOn_73 : decode cX2_secondsOn 73 = .ok (.invokestatic 96, 3) := by decide +kernel
theorem dX2_secondsOn_76 : decode cX2_secondsOn 76 = .ok (.lreturn, 1) := by decide +kernel
set_option maxHeartbeats 4000000 in
set_option maxRecDepth 20000 in
theorem c_X2_secondsOn (tys : List (ClassId × FieldType)) (ws : va_W) (q0 a0 : Nat) (s0 : Int64) (n0 o0 : Int32) (h0 : ws[q0]? = some (a0, .inr (2, [.long s0, .int n0, .int o0]))) (p1 : Int32) (p2 : Int64) : mCt tys yX2_secondsOn cX2_secondsOn 4 (some .long) ⟨2, 0, 0, 46⟩ [.ref a0, .int p1, .long p2] ws (mRl ws) mNo := by
  refine mCt.of (by decide +kernel) (Nat.le_of_ble_eq_true rfl) (fun X hX hE => ?_)
  have hX : mOK X RX2 cX2_secondsOn 4 ⟨2, 0, 0, 46⟩ [] tys := hX
  refine r_iload_n hX dX2_secondsOn_0 rfl rfl ?_
  by_cases s1 : p1.toInt = 2
  · refine r_tableIn (off := 35) (tgt := 36) hX dX2_secondsOn_1 (by omega) (by omega) (by rw [s1]; rfl) (by decide) ?_
    refine r_lload_n hX dX2_secondsOn_36 rfl rfl ?_
    refine r_ldc2 hX kc_X2_302 dX2_secondsOn_37 ?_
    refine r_lmul hX dX2_secondsOn_40 ?_
    refine r_ldc2 hX kc_X2_130 dX2_secondsOn_41 ?_
    refine r_lmul hX dX2_secondsOn_44 ?_
    exact r_lret hX hE dX2_secondsOn_45 (Nat.le_of_ble_eq_true rfl) (Nat.le_of_ble_eq_true rfl) ⟨_, rfl, rfl⟩
  by_cases s2 : p1.toInt = 3
  · refine r_tableIn (off := 45) (tgt := 46) hX dX2_secondsOn_1 (by omega) (by omega) (by rw [s2]; rfl) (by decide) ?_
    refine r_lload_n hX dX2_secondsOn_46 rfl rfl ?_
    refine r_ldc2 hX kc_X2_130 dX2_secondsOn_47 ?_
    refine r_lmul hX dX2_secondsOn_50 ?_
    exact r_lret hX hE dX2_secondsOn_51 (Nat.le_of_ble_eq_true rfl) (Nat.le_of_ble_eq_true rfl) ⟨_, rfl, rfl⟩
  by_cases s3 : p1.toInt = 4
  · refine r_tableIn (off := 51) (tgt := 52) hX dX2_secondsOn_1 (by omega) (by omega) (by rw [s3]; rfl) (by decide) ?_
    refine r_lload_n hX dX2_secondsOn_52 rfl rfl ?_
    refine r_ldc2 hX kc_X2_304 dX2_secondsOn_53 ?_
    refine r_lmul hX dX2_secondsOn_56 ?_
    exact r_lret hX hE dX2_secondsOn_57 (Nat.le_of_ble_eq_true rfl) (Nat.le_of_ble_eq_true rfl) ⟨_, rfl, rfl⟩
  by_cases s4 : p1.toInt = 5
  · refine r_tableIn (off := 57) (tgt := 58) hX dX2_secondsOn_1 (by omega) (by omega) (by rw [s4]; rfl) (by decide) ?_
    refine r_lload_n hX dX2_secondsOn_58 rfl rfl ?_
    refine r_ldc2 hX kc_X2_306 dX2_secondsOn_59 ?_
    refine r_lmul hX dX2_secondsOn_62 ?_
    exact r_lret hX hE dX2_secondsOn_63 (Nat.le_of_ble_eq_true rfl) (Nat.le_of_ble_eq_true rfl) ⟨_, rfl, rfl⟩
  by_cases s5 : p1.toInt = 6
  · refine r_tableIn (off := 63) (tgt := 64) hX dX2_secondsOn_1 (by omega) (by omega) (by rw [s5]; rfl) (by decide) ?_
    refine r_lload_n hX dX2_secondsOn_64 rfl rfl ?_
    exact r_lret hX hE dX2_secondsOn_65 (Nat.le_of_ble_eq_true rfl) (Nat.le_of_ble_eq_true rfl) ⟨_, rfl, rfl⟩
  refine r_tableOut (tgt := 66) hX dX2_secondsOn_1 (by omega) (by decide) ?_
  refine r_aload_n hX dX2_secondsOn_66 rfl rfl ?_
  refine r_getN hX kg_X2_172 q0 h0 rfl dX2_secondsOn_67 ?_
  refine r_i2l hX dX2_secondsOn_70 ?_
  refine r_lload_n hX dX2_secondsOn_71 rfl rfl ?_
  refine r_ladd hX dX2_secondsOn_72 ?_
  refine r_callS hX (c_X2_secondOf _ _ _) ks_X2_96 rfl rfl (Nat.le_of_ble_eq_true rfl) ⟨(Nat.le_of_ble_eq_true rfl), (Nat.le_of_ble_eq_true rfl)⟩ ⟨(Nat.le_of_ble_eq_true rfl), (Nat.le_of_ble_eq_true rfl)⟩ dX2_secondsOn_73 (fun _ _ z => False.elim z) (fun v9 ws9 h6 => ?_)
  obtain ⟨r8, rfl, hw9⟩ := h6
  subst ws9
  dsimp only [mPush]
  exact r_lret hX hE dX2_secondsOn_76 (Nat.le_of_ble_eq_true rfl) (Nat.le_of_ble_eq_true rfl) ⟨_, rfl, rfl⟩
theorem dX2_nanoOn_0 : decode cX2_nanoOn 0 = .ok (.iload_n 1, 1) := by decide +kernel
theorem dX2_nanoOn_1 : decode cX2_nanoOn 1 = .ok (.bipush 7, 2) := by decide +kernel
theorem dX2_nanoOn_3 : decode cX2_nanoOn 3 = .ok (.if_icmp .ne 16, 3) := by decide +kernel
theorem dX2_nanoOn_6 : decode cX2_nanoOn 6 = .ok (.aload_n 0, 1) := by decide +kernel
theorem dX2_nanoOn_7 : decode cX2_nanoOn 7 = .ok (.getfield 172, 3) := by decide +kernel
theorem dX2_nanoOn_10 : decode cX2_nanoOn 10 = .ok (.i2l, 1) := by decide +kernel
theorem dX2_nanoOn_11 : decode cX2_nanoOn 11 = .ok (.lload_n 2, 1) := by decide +kernel
theorem dX2_nanoOn_12 : decode cX2_nanoOn 12 = .ok (.ladd, 1) := by decide +kernel
theorem dX2_nanoOn_13 : decode cX2_nanoOn 13 = .ok (.invokestatic 92, 3) := by decide +kernel
theorem dX2_nanoOn_16 : decode cX2_nanoOn 16 = .ok (.goto 7, 3) := by decide +kernel
theorem dX2_nanoOn_19 : decode cX2_nanoOn 19 = .ok (.aload_n 0, 1) := by decide +kernel
theorem dX2_nanoOn_20 : decode cX2_nanoOn 20 = .ok (.getfield 172, 3) := by decide +kernel
theorem dX2_nanoOn_23 : decode cX2_nanoOn 23 = .ok (.ireturn, 1) := by decide +kernel
set_option maxHeartbeats 4000000 in
set_option maxRecDepth 20000 in
theorem c_X2_nanoOn (tys : List (ClassId × FieldType)) (ws : va_W) (q0 a0 : Nat) (s0 : Int64) (n0 o0 : Int32) (h0 : ws[q0]? = some (a0, .inr (2, [.long s0, .int n0, .int o0]))) (p1 : Int32) (p2 : Int64) : mCt tys yX2_nanoOn cX2_nanoOn 4 (some .int) ⟨2, 0, 0, 46⟩ [.ref a0, .int p1, .long p2] ws (mRi ws) mNo := by
  refine mCt.of (by decide +kernel) (Nat.le_of_ble_eq_true rfl) (fun X hX hE => ?_)
  have hX : mOK X RX2 cX2_nanoOn 4 ⟨2, 0, 0, 46⟩ [] tys := hX
  refine r_iload_n hX dX2_nanoOn_0 rfl rfl ?_
  refine r_bipush (v := 7) hX dX2_nanoOn_1 (by decide) ?_
  refine r_icmp_ne (tgt := 19) hX dX2_nanoOn_3 (by decide) (fun c1 => ?_) (fun c1 => ?_)
  · refine r_aload_n hX dX2_nanoOn_19 rfl rfl ?_
    refine r_getN hX kg_X2_172 q0 h0 rfl dX2_nanoOn_20 ?_
    exact r_iret hX hE dX2_nanoOn_23 (Nat.le_of_ble_eq_true rfl) (Nat.le_of_ble_eq_true rfl) ⟨_, rfl, rfl⟩
  · refine r_aload_n hX dX2_nanoOn_6 rfl rfl ?_
    refine r_getN hX kg_X2_172 q0 h0 rfl dX2_nanoOn_7 ?_
    refine r_i2l hX dX2_nanoOn_10 ?_
    refine r_lload_n hX dX2_nanoOn_11 rfl rfl ?_
    refine r_ladd hX dX2_nanoOn_12 ?_
    refine r_callS hX (c_X2_nanoOf _ _ _) ks_X2_92 rfl rfl (Nat.le_of_ble_eq_true rfl) ⟨(Nat.le_of_ble_eq_true rfl), (Nat.le_of_ble_eq_true rfl)⟩ ⟨(Nat.le_of_ble_eq_true rfl), (Nat.le_of_ble_eq_true rfl)⟩ dX2_nanoOn_13 (fun _ _ z => False.elim z) (fun v9 ws9 h2 => ?_)
    obtain ⟨r4, rfl, hw9⟩ := h2
    subst ws9
    dsimp only [mPush]
    refine r_goto (tgt := 23) hX dX2_nanoOn_16 (by decide) ?_
    exact r_iret hX hE dX2_nanoOn_23 (Nat.le_of_ble_eq_true rfl) (Nat.le_of_ble_eq_true rfl) ⟨_, rfl, rfl⟩
theorem dX2_datePart_0 : decode cX2_datePart 0 = .ok (.aload_n 0, 1) := by decide +kernel
theorem dX2_datePart_1 : decode cX2_datePart 1 = .ok (.invokevirtual 274, 3) := by decide +kernel
theorem dX2_datePart_4 : decode cX2_datePart 4 = .ok (.istore_n 2, 1) := by decide +kernel
theorem dX2_datePart_5 : decode cX2_datePart 5 = .ok (.iload_n 1, 1) := by decide +kernel
theorem dX2_datePart_6 : decode cX2_datePart 6 = .ok (.tableswitch 120 0 11 #[62, 67, 72, 77, 82, 87, 92, 97, 102, 107, 112, 118], 62) := by decide +kernel
theorem dX2_datePart_68 : decode cX2_datePart 68 = .ok (.iload_n 2, 1) := by decide +kernel
theorem dX2_datePart_69 : decode cX2_datePart 69 = .ok (.invokestatic 323, 3) := by decide +kernel
theorem dX2_datePart_72 : decode cX2_datePart 72 = .ok (.ireturn, 1) := by decide +kernel
theorem dX2_datePart_73 : decode cX2_datePart 73 = .ok (.iload_n 2, 1) := by decide +kernel
theorem dX2_datePart_74 : decode cX2_datePart 74 = .ok (.invokestatic 326, 3) := by decide +kernel
theorem dX2_datePart_77 : decode cX2_datePart 77 = .ok (.ireturn, 1) := by decide +kernel
theorem dX2_datePart_78 : decode cX2_datePart 78 = .ok (.iload_n 2, 1) := by decide +kernel
theorem dX2_datePart_79 : decode cX2_datePart 79 = .ok (.invokestatic 311, 3) := by decide +kernel
theorem dX2_datePart_82 : decode cX2_datePart 82 = .ok (.ireturn, 1) := by decide +kernel
theorem dX2_datePart_83 : decode cX2_datePart 83 = .ok (.iload_n 2, 1) := by decide +kernel
theorem dX2_datePart_84 : decode cX2_datePart 84 = .ok (.invokestatic 350, 3) := by decide +kernel
theorem dX2_datePart_87 : decode cX2_datePart 87 = .ok (.ireturn, 1) := by decide +kernel
theorem dX2_datePart_88 : decode cX2_datePart 88 = .ok (.aload_n 0, 1) := by decide +kernel
theorem dX2_datePart_89 : decode cX2_datePart 89 = .ok (.invokevirtual 335, 3) := by decide +kernel
theorem dX2_datePart_92 : decode cX2_datePart 92 = .ok (.ireturn, 1) := by decide +kernel
theorem dX2_datePart_93 : decode cX2_datePart 93 = .ok (.aload_n 0, 1) := by decide +kernel
theorem dX2_datePart_94 : decode cX2_datePart 94 = .ok (.invokevirtual 342, 3) := by decide +kernel
theorem dX2_datePart_97 : decode cX2_datePart 97 = .ok (.ireturn, 1) := by decide +kernel
theorem dX2_datePart_98 : decode cX2_datePart 98 = .ok (.aload_n 0, 1) := by decide +kernel
theorem dX2_datePart_99 : decode cX2_datePart 99 = .ok (.invokevirtual 345, 3) := by decide +kernel
theorem dX2_datePart_102 : decode cX2_datePart 102 = .ok (.ireturn, 1) := by decide +kernel
theorem dX2_datePart_103 : decode cX2_datePart 103 = .ok (.aload_n 0, 1) := by decide +kernel
theorem dX2_datePart_104 : decode cX2_datePart 104 = .ok (.getfield 172, 3) := by decide +kernel
theorem dX2_datePart_107 : decode cX2_datePart 107 = .ok (.ireturn, 1) := by decide +kernel
theorem dX2_datePart_108 : decode cX2_datePart 108 = .ok (.iload_n 2, 1) := by decide +kernel
theorem dX2_datePart_109 : decode cX2_datePart 109 = .ok (.invokestatic 353, 3) := by decide +kernel
theorem dX2_datePart_112 : decode cX2_datePart 112 = .ok (.ireturn, 1) := by decide +kernel
theorem dX2_datePart_113 : decode cX2_datePart 113 = .ok (.aload_n 0, 1) := by decide +kernel
theorem dX2_datePart_114 : decode cX2_datePart 114 = .ok (.getfield 158, 3) := by decide +kernel
theorem dX2_datePart_117 : decode cX2_datePart 117 = .ok (.ireturn, 1) := by decide +kernel
theorem dX2_datePart_118 : decode cX2_datePart 118 = .ok (.aload_n 0, 1) := by decide +kernel
theorem dX2_datePart_119 : decode cX2_datePart 119 = .ok (.invokevirtual 169, 3) := by decide +kernel
theorem dX2_datePart_122 : decode cX2_datePart 122 = .ok (.l2i, 1) := by decide +kernel
theorem dX2_datePart_123 : decode cX2_datePart 123 = .ok (.ireturn, 1) := by decide +kernel
theorem dX2_datePart_124 : decode cX2_datePart 124 = .ok (.iload_n 2, 1) := by decide +kernel
theorem dX2_datePart_125 : decode cX2_datePart 125 = .ok (.ireturn, 1) := by decide +kernel
theorem dX2_datePart_126 : decode cX2_datePart 126 = .ok (.aload_n 0, 1) := by decide +kernel
theorem dX2_datePart_127 : decode cX2_datePart 127 = .ok (.invokevirtual 320, 3) := by decide +kernel
theorem dX2_datePart_130 : decode cX2_datePart 130 = .ok (.ireturn, 1) := by decide +kernel
set_option maxHeartbeats 4000000 in
set_option maxRecDepth 20000 in
theorem c_X2_datePart (tys : List (ClassId × FieldType)) (ws : va_W) (q0 a0 : Nat) (s0 : Int64) (n0 o0 : Int32) (h0 : ws[q0]? = some (a0, .inr (2, [.long s0, .int n0, .int o0]))) (p1 : Int32) : mCt tys yX2_datePart cX2_datePart 3 (some .int) ⟨4, 0, 0, 85⟩ [.ref a0, .int p1] ws (mRi ws) mNo := by
  refine mCt.of (by decide +kernel) (Nat.le_of_ble_eq_true rfl) (fun X hX hE => ?_)
  have hX : mOK X RX2 cX2_datePart 3 ⟨4, 0, 0, 85⟩ [] tys := hX
  refine r_aload_n hX dX2_datePart_0 rfl rfl ?_
  refine r_callV hX (c_X1_day _ _ q0 _ _ _ _ h0) kv_X2_274 q0 h0 rfl rfl rfl (Nat.le_of_ble_eq_true rfl) ⟨(Nat.le_of_ble_eq_true rfl), (Nat.le_of_ble_eq_true rfl)⟩ ⟨(Nat.le_of_ble_eq_true rfl), (Nat.le_of_ble_eq_true rfl)⟩ dX2_datePart_1 (fun _ _ z => False.elim z) (fun v9 ws9 h1 => ?_)
  obtain ⟨r3, rfl, hw9⟩ := h1
  subst ws9
  dsimp only [mPush]
  refine r_istore_n hX dX2_datePart_4 rfl (by decide) rfl ?_
  refine r_iload_n hX dX2_datePart_5 rfl rfl ?_
  by_cases s4 : p1.toInt = 0
  · refine r_tableIn (off := 62) (tgt := 68) hX dX2_datePart_6 (by omega) (by omega) (by rw [s4]; rfl) (by decide) ?_
    refine r_iload_n hX dX2_datePart_68 rfl rfl ?_
    refine r_callS hX (c_X0_yearOf _ _ _) ks_X2_323 rfl rfl (Nat.le_of_ble_eq_true rfl) ⟨(Nat.le_of_ble_eq_true rfl), (Nat.le_of_ble_eq_true rfl)⟩ ⟨(Nat.le_of_ble_eq_true rfl), (Nat.le_of_ble_eq_true rfl)⟩ dX2_datePart_69 (fun _ _ z => False.elim z) (fun v9 ws9 h5 => ?_)
    obtain ⟨r7, rfl, hw9⟩ := h5
    subst ws9
    dsimp only [mPush]
    exact r_iret hX hE dX2_datePart_72 (Nat.le_of_ble_eq_true rfl) (Nat.le_of_ble_eq_true rfl) ⟨_, rfl, rfl⟩
  by_cases s8 : p1.toInt = 1
  · refine r_tableIn (off := 67) (tgt := 73) hX dX2_datePart_6 (by omega) (by omega) (by rw [s8]; rfl) (by decide) ?_
    refine r_iload_n hX dX2_datePart_73 rfl rfl ?_
    refine r_callS hX (c_X0_monthOf _ _ _) ks_X2_326 rfl rfl (Nat.le_of_ble_eq_true rfl) ⟨(Nat.le_of_ble_eq_true rfl), (Nat.le_of_ble_eq_true rfl)⟩ ⟨(Nat.le_of_ble_eq_true rfl), (Nat.le_of_ble_eq_true rfl)⟩ dX2_datePart_74 (fun _ _ z => False.elim z) (fun v9 ws9 h9 => ?_)
    obtain ⟨r11, rfl, hw9⟩ := h9
    subst ws9
    dsimp only [mPush]
    exact r_iret hX hE dX2_datePart_77 (Nat.le_of_ble_eq_true rfl) (Nat.le_of_ble_eq_true rfl) ⟨_, rfl, rfl⟩
  by_cases s12 : p1.toInt = 2
  · refine r_tableIn (off := 72) (tgt := 78) hX dX2_datePart_6 (by omega) (by omega) (by rw [s12]; rfl) (by decide) ?_
    refine r_iload_n hX dX2_datePart_78 rfl rfl ?_
    refine r_callS hX (c_X0_dayOfMonth _ _ _) ks_X2_311 rfl rfl (Nat.le_of_ble_eq_true rfl) ⟨(Nat.le_of_ble_eq_true rfl), (Nat.le_of_ble_eq_true rfl)⟩ ⟨(Nat.le_of_ble_eq_true rfl), (Nat.le_of_ble_eq_true rfl)⟩ dX2_datePart_79 (fun _ _ z => False.elim z) (fun v9 ws9 h13 => ?_)
    obtain ⟨r15, rfl, hw9⟩ := h13
    subst ws9
    dsimp only [mPush]
    exact r_iret hX hE dX2_datePart_82 (Nat.le_of_ble_eq_true rfl) (Nat.le_of_ble_eq_true rfl) ⟨_, rfl, rfl⟩
  by_cases s16 : p1.toInt = 3
  · refine r_tableIn (off := 77) (tgt := 83) hX dX2_datePart_6 (by omega) (by omega) (by rw [s16]; rfl) (by decide) ?_
    refine r_iload_n hX dX2_datePart_83 rfl rfl ?_
    refine r_callS hX (c_X0_dayOfYear _ _ _) ks_X2_350 rfl rfl (Nat.le_of_ble_eq_true rfl) ⟨(Nat.le_of_ble_eq_true rfl), (Nat.le_of_ble_eq_true rfl)⟩ ⟨(Nat.le_of_ble_eq_true rfl), (Nat.le_of_ble_eq_true rfl)⟩ dX2_datePart_84 (fun _ _ z => False.elim z) (fun v9 ws9 h17 => ?_)
    obtain ⟨r19, rfl, hw9⟩ := h17
    subst ws9
    dsimp only [mPush]
    exact r_iret hX hE dX2_datePart_87 (Nat.le_of_ble_eq_true rfl) (Nat.le_of_ble_eq_true rfl) ⟨_, rfl, rfl⟩
  by_cases s20 : p1.toInt = 4
  · refine r_tableIn (off := 82) (tgt := 88) hX dX2_datePart_6 (by omega) (by omega) (by rw [s20]; rfl) (by decide) ?_
    refine r_aload_n hX dX2_datePart_88 rfl rfl ?_
    refine r_callV hX (c_X1_hour _ _ q0 _ _ _ _ h0) kv_X2_335 q0 h0 rfl rfl rfl (Nat.le_of_ble_eq_true rfl) ⟨(Nat.le_of_ble_eq_true rfl), (Nat.le_of_ble_eq_true rfl)⟩ ⟨(Nat.le_of_ble_eq_true rfl), (Nat.le_of_ble_eq_true rfl)⟩ dX2_datePart_89 (fun _ _ z => False.elim z) (fun v9 ws9 h21 => ?_)
    obtain ⟨r23, rfl, hw9⟩ := h21
    subst ws9
    dsimp only [mPush]
    exact r_iret hX hE dX2_datePart_92 (Nat.le_of_ble_eq_true rfl) (Nat.le_of_ble_eq_true rfl) ⟨_, rfl, rfl⟩
  by_cases s24 : p1.toInt = 5
  · refine r_tableIn (off := 87) (tgt := 93) hX dX2_datePart_6 (by omega) (by omega) (by rw [s24]; rfl) (by decide) ?_
    refine r_aload_n hX dX2_datePart_93 rfl rfl ?_
    refine r_callV hX (c_X1_minute _ _ q0 _ _ _ _ h0) kv_X2_342 q0 h0 rfl rfl rfl (Nat.le_of_ble_eq_true rfl) ⟨(Nat.le_of_ble_eq_true rfl), (Nat.le_of_ble_eq_true rfl)⟩ ⟨(Nat.le_of_ble_eq_true rfl), (Nat.le_of_ble_eq_true rfl)⟩ dX2_datePart_94 (fun _ _ z => False.elim z) (fun v9 ws9 h25 => ?_)
    obtain ⟨r27, rfl, hw9⟩ := h25
    subst ws9
    dsimp only [mPush]
    exact r_iret hX hE dX2_datePart_97 (Nat.le_of_ble_eq_true rfl) (Nat.le_of_ble_eq_true rfl) ⟨_, rfl, rfl⟩
  by_cases s28 : p1.toInt = 6
  · refine r_tableIn (off := 92) (tgt := 98) hX dX2_datePart_6 (by omega) (by omega) (by rw [s28]; rfl) (by decide) ?_
    refine r_aload_n hX dX2_datePart_98 rfl rfl ?_
    refine r_callV hX (c_X1_secondOfMinute _ _ q0 _ _ _ _ h0) kv_X2_345 q0 h0 rfl rfl rfl (Nat.le_of_ble_eq_true rfl) ⟨(Nat.le_of_ble_eq_true rfl), (Nat.le_of_ble_eq_true rfl)⟩ ⟨(Nat.le_of_ble_eq_true rfl), (Nat.le_of_ble_eq_true rfl)⟩ dX2_datePart_99 (fun _ _ z => False.elim z) (fun v9 ws9 h29 => ?_)
    obtain ⟨r31, rfl, hw9⟩ := h29
    subst ws9
    dsimp only [mPush]
    exact r_iret hX hE dX2_datePart_102 (Nat.le_of_ble_eq_true rfl) (Nat.le_of_ble_eq_true rfl) ⟨_, rfl, rfl⟩
  by_cases s32 : p1.toInt = 7
  · refine r_tableIn (off := 97) (tgt := 103) hX dX2_datePart_6 (by omega) (by omega) (by rw [s32]; rfl) (by decide) ?_
    refine r_aload_n hX dX2_datePart_103 rfl rfl ?_
    refine r_getN hX kg_X2_172 q0 h0 rfl dX2_datePart_104 ?_
    exact r_iret hX hE dX2_datePart_107 (Nat.le_of_ble_eq_true rfl) (Nat.le_of_ble_eq_true rfl) ⟨_, rfl, rfl⟩
  by_cases s33 : p1.toInt = 8
  · refine r_tableIn (off := 102) (tgt := 108) hX dX2_datePart_6 (by omega) (by omega) (by rw [s33]; rfl) (by decide) ?_
    refine r_iload_n hX dX2_datePart_108 rfl rfl ?_
    refine r_callS hX (c_X0_dayOfWeek _ _ _) ks_X2_353 rfl rfl (Nat.le_of_ble_eq_true rfl) ⟨(Nat.le_of_ble_eq_true rfl), (Nat.le_of_ble_eq_true rfl)⟩ ⟨(Nat.le_of_ble_eq_true rfl), (Nat.le_of_ble_eq_true rfl)⟩ dX2_datePart_109 (fun _ _ z => False.elim z) (fun v9 ws9 h34 => ?_)
    obtain ⟨r36, rfl, hw9⟩ := h34
    subst ws9
    dsimp only [mPush]
    exact r_iret hX hE dX2_datePart_112 (Nat.le_of_ble_eq_true rfl) (Nat.le_of_ble_eq_true rfl) ⟨_, rfl, rfl⟩
  by_cases s37 : p1.toInt = 9
  · refine r_tableIn (off := 107) (tgt := 113) hX dX2_datePart_6 (by omega) (by omega) (by rw [s37]; rfl) (by decide) ?_
    refine r_aload_n hX dX2_datePart_113 rfl rfl ?_
    refine r_getN hX kg_X2_158 q0 h0 rfl dX2_datePart_114 ?_
    exact r_iret hX hE dX2_datePart_117 (Nat.le_of_ble_eq_true rfl) (Nat.le_of_ble_eq_true rfl) ⟨_, rfl, rfl⟩
  by_cases s38 : p1.toInt = 10
  · refine r_tableIn (off := 112) (tgt := 118) hX dX2_datePart_6 (by omega) (by omega) (by rw [s38]; rfl) (by decide) ?_
    refine r_aload_n hX dX2_datePart_118 rfl rfl ?_
    refine r_callV hX (c_X1_momentSecond _ _ q0 _ _ _ _ h0) kv_X2_169 q0 h0 rfl rfl rfl (Nat.le_of_ble_eq_true rfl) ⟨(Nat.le_of_ble_eq_true rfl), (Nat.le_of_ble_eq_true rfl)⟩ ⟨(Nat.le_of_ble_eq_true rfl), (Nat.le_of_ble_eq_true rfl)⟩ dX2_datePart_119 (fun _ _ z => False.elim z) (fun v9 ws9 h39 => ?_)
    obtain ⟨r41, rfl, hw9⟩ := h39
    subst ws9
    dsimp only [mPush]
    refine r_l2i hX dX2_datePart_122 ?_
    exact r_iret hX hE dX2_datePart_123 (Nat.le_of_ble_eq_true rfl) (Nat.le_of_ble_eq_true rfl) ⟨_, rfl, rfl⟩
  by_cases s42 : p1.toInt = 11
  · refine r_tableIn (off := 118) (tgt := 124) hX dX2_datePart_6 (by omega) (by omega) (by rw [s42]; rfl) (by decide) ?_
    refine r_iload_n hX dX2_datePart_124 rfl rfl ?_
    exact r_iret hX hE dX2_datePart_125 (Nat.le_of_ble_eq_true rfl) (Nat.le_of_ble_eq_true rfl) ⟨_, rfl, rfl⟩
  refine r_tableOut (tgt := 126) hX dX2_datePart_6 (by omega) (by decide) ?_
  refine r_aload_n hX dX2_datePart_126 rfl rfl ?_
  refine r_callV hX (c_X1_secondOfDay _ _ q0 _ _ _ _ h0) kv_X2_320 q0 h0 rfl rfl rfl (Nat.le_of_ble_eq_true rfl) ⟨(Nat.le_of_ble_eq_true rfl), (Nat.le_of_ble_eq_true rfl)⟩ ⟨(Nat.le_of_ble_eq_true rfl), (Nat.le_of_ble_eq_true rfl)⟩ dX2_datePart_127 (fun _ _ z => False.elim z) (fun v9 ws9 h43 => ?_)
  obtain ⟨r45, rfl, hw9⟩ := h43
  subst ws9
  dsimp only [mPush]
  exact r_iret hX hE dX2_datePart_130 (Nat.le_of_ble_eq_true rfl) (Nat.le_of_ble_eq_true rfl) ⟨_, rfl, rfl⟩
theorem dX2_clockPart_0 : decode cX2_clockPart 0 = .ok (.iload_n 1, 1) := by decide +kernel
theorem dX2_clockPart_1 : decode cX2_clockPart 1 = .ok (.tableswitch 60 0 4 #[35, 40, 45, 50, 55], 35) := by decide +kernel
theorem dX2_clockPart_36 : decode cX2_clockPart 36 = .ok (.aload_n 0, 1) := by decide +kernel
theorem dX2_clockPart_37 : decode cX2_clockPart 37 = .ok (.invokevirtual 335, 3) := by decide +kernel
theorem dX2_clockPart_40 : decode cX2_clockPart 40 = .ok (.ireturn, 1) := by decide +kernel
theorem dX2_clockPart_41 : decode cX2_clockPart 41 = .ok (.aload_n 0, 1) := by decide +kernel
theorem dX2_clockPart_42 : decode cX2_clockPart 42 = .ok (.invokevirtual 342, 3) := by decide +kernel
theorem dX2_clockPart_45 : decode cX2_clockPart 45 = .ok (.ireturn, 1) := by decide +kernel
theorem dX2_clockPart_46 : decode cX2_clockPart 46 = .ok (.aload_n 0, 1) := by decide +kernel
theorem dX2_clockPart_47 : decode cX2_clockPart 47 = .ok (.invokevirtual 345, 3) := by decide +kernel
theorem dX2_clockPart_50 : decode cX2_clockPart 50 = .ok (.ireturn, 1) := by decide +kernel
theorem dX2_clockPart_51 : decode cX2_clockPart 51 = .ok (.aload_n 0, 1) := by decide +kernel
theorem dX2_clockPart_52 : decode cX2_clockPart 52 = .ok (.getfield 172, 3) := by decide +kernel
theorem dX2_clockPart_55 : decode cX2_clockPart 55 = .ok (.ireturn, 1) := by decide +kernel
theorem dX2_clockPart_56 : decode cX2_clockPart 56 = .ok (.aload_n 0, 1) := by decide +kernel
theorem dX2_clockPart_57 : decode cX2_clockPart 57 = .ok (.getfield 158, 3) := by decide +kernel
theorem dX2_clockPart_60 : decode cX2_clockPart 60 = .ok (.ireturn, 1) := by decide +kernel
theorem dX2_clockPart_61 : decode cX2_clockPart 61 = .ok (.aload_n 0, 1) := by decide +kernel
theorem dX2_clockPart_62 : decode cX2_clockPart 62 = .ok (.invokevirtual 320, 3) := by decide +kernel
theorem dX2_clockPart_65 : decode cX2_clockPart 65 = .ok (.ireturn, 1) := by decide +kernel
set_option maxHeartbeats 4000000 in
set_option maxRecDepth 20000 in
theorem c_X2_clockPart (tys : List (ClassId × FieldType)) (ws : va_W) (q0 a0 : Nat) (s0 : Int64) (n0 o0 : Int32) (h0 : ws[q0]? = some (a0, .inr (2, [.long s0, .int n0, .int o0]))) (p1 : Int32) : mCt tys yX2_clockPart cX2_clockPart 2 (some .int) ⟨3, 0, 0, 65⟩ [.ref a0, .int p1] ws (mRi ws) mNo := by
  refine mCt.of (by decide +kernel) (Nat.le_of_ble_eq_true rfl) (fun X hX hE => ?_)
  have hX : mOK X RX2 cX2_clockPart 2 ⟨3, 0, 0, 65⟩ [] tys := hX
  refine r_iload_n hX dX2_clockPart_0 rfl rfl ?_
  by_cases s1 : p1.toInt = 0
  · refine r_tableIn (off := 35) (tgt := 36) hX dX2_clockPart_1 (by omega) (by omega) (by rw [s1]; rfl) (by decide) ?_
    refine r_aload_n hX dX2_clockPart_36 rfl rfl ?_
    refine r_callV hX (c_X1_hour _ _ q0 _ _ _ _ h0) kv_X2_335 q0 h0 rfl rfl rfl (Nat.le_of_ble_eq_true rfl) ⟨(Nat.le_of_ble_eq_true rfl), (Nat.le_of_ble_eq_true rfl)⟩ ⟨(Nat.le_of_ble_eq_true rfl), (Nat.le_of_ble_eq_true rfl)⟩ dX2_clockPart_37 (fun _ _ z => False.elim z) (fun v9 ws9 h2 => ?_)
    obtain ⟨r4, rfl, hw9⟩ := h2
    subst ws9
    dsimp only [mPush]
    exact r_iret hX hE dX2_clockPart_40 (Nat.le_of_ble_eq_true rfl) (Nat.le_of_ble_eq_true rfl) ⟨_, rfl, rfl⟩
  by_cases s5 : p1.toInt = 1
  · refine r_tableIn (off := 40) (tgt := 41) hX dX2_clockPart_1 (by omega) (by omega) (by rw [s5]; rfl) (by decide) ?_
    refine r_aload_n hX dX2_clockPart_41 rfl rfl ?_
    refine r_callV hX (c_X1_minute _ _ q0 _ _ _ _ h0) kv_X2_342 q0 h0 rfl rfl rfl (Nat.le_of_ble_eq_true rfl) ⟨(Nat.le_of_ble_eq_true rfl), (Nat.le_of_ble_eq_true rfl)⟩ ⟨(Nat.le_of_ble_eq_true rfl), (Nat.le_of_ble_eq_true rfl)⟩ dX2_clockPart_42 (fun _ _ z => False.elim z) (fun v9 ws9 h6 => ?_)
    obtain ⟨r8, rfl, hw9⟩ := h6
    subst ws9
    dsimp only [mPush]
    exact r_iret hX hE dX2_clockPart_45 (Nat.le_of_ble_eq_true rfl) (Nat.le_of_ble_eq_true rfl) ⟨_, rfl, rfl⟩
  by_cases s9 : p1.toInt = 2
  · refine r_tableIn (off := 45) (tgt := 46) hX dX2_clockPart_1 (by omega) (by omega) (by rw [s9]; rfl) (by decide) ?_
    refine r_aload_n hX dX2_clockPart_46 rfl rfl ?_
    refine r_callV hX (c_X1_secondOfMinute _ _ q0 _ _ _ _ h0) kv_X2_345 q0 h0 rfl rfl rfl (Nat.le_of_ble_eq_true rfl) ⟨(Nat.le_of_ble_eq_true rfl), (Nat.le_of_ble_eq_true rfl)⟩ ⟨(Nat.le_of_ble_eq_true rfl), (Nat.le_of_ble_eq_true rfl)⟩ dX2_clockPart_47 (fun _ _ z => False.elim z) (fun v9 ws9 h10 => ?_)
    obtain ⟨r12, rfl, hw9⟩ := h10
    subst ws9
    dsimp only [mPush]
    exact r_iret hX hE dX2_clockPart_50 (Nat.le_of_ble_eq_true rfl) (Nat.le_of_ble_eq_true rfl) ⟨_, rfl, rfl⟩
  by_cases s13 : p1.toInt = 3
  · refine r_tableIn (off := 50) (tgt := 51) hX dX2_clockPart_1 (by omega) (by omega) (by rw [s13]; rfl) (by decide) ?_
    refine r_aload_n hX dX2_clockPart_51 rfl rfl ?_
    refine r_getN hX kg_X2_172 q0 h0 rfl dX2_clockPart_52 ?_
    exact r_iret hX hE dX2_clockPart_55 (Nat.le_of_ble_eq_true rfl) (Nat.le_of_ble_eq_true rfl) ⟨_, rfl, rfl⟩
  by_cases s14 : p1.toInt = 4
  · refine r_tableIn (off := 55) (tgt := 56) hX dX2_clockPart_1 (by omega) (by omega) (by rw [s14]; rfl) (by decide) ?_
    refine r_aload_n hX dX2_clockPart_56 rfl rfl ?_
    refine r_getN hX kg_X2_158 q0 h0 rfl dX2_clockPart_57 ?_
    exact r_iret hX hE dX2_clockPart_60 (Nat.le_of_ble_eq_true rfl) (Nat.le_of_ble_eq_true rfl) ⟨_, rfl, rfl⟩
  refine r_tableOut (tgt := 61) hX dX2_clockPart_1 (by omega) (by decide) ?_
  refine r_aload_n hX dX2_clockPart_61 rfl rfl ?_
  refine r_callV hX (c_X1_secondOfDay _ _ q0 _ _ _ _ h0) kv_X2_320 q0 h0 rfl rfl rfl (Nat.le_of_ble_eq_true rfl) ⟨(Nat.le_of_ble_eq_true rfl), (Nat.le_of_ble_eq_true rfl)⟩ ⟨(Nat.le_of_ble_eq_true rfl), (Nat.le_of_ble_eq_true rfl)⟩ dX2_clockPart_62 (fun _ _ z => False.elim z) (fun v9 ws9 h15 => ?_)
  obtain ⟨r17, rfl, hw9⟩ := h15
  subst ws9
  dsimp only [mPush]
  exact r_iret hX hE dX2_clockPart_65 (Nat.le_of_ble_eq_true rfl) (Nat.le_of_ble_eq_true rfl) ⟨_, rfl, rfl⟩
theorem dX2_isSo_0 : decode cX2_isSo 0 = .ok (.iload_n 2, 1) := by decide +kernel
theorem dX2_isSo_1 : decode cX2_isSo 1 = .ok (.tableswitch 45 0 2 #[27, 33, 39], 27) := by decide +kernel
theorem dX2_isSo_28 : decode cX2_isSo 28 = .ok (.aload_n 0, 1) := by decide +kernel
theorem dX2_isSo_29 : decode cX2_isSo 29 = .ok (.aload_n 1, 1) := by decide +kernel
theorem dX2_isSo_30 : decode cX2_isSo 30 = .ok (.invokevirtual 356, 3) := by decide +kernel
theorem dX2_isSo_33 : decode cX2_isSo 33 = .ok (.ireturn, 1) := by decide +kernel
theorem dX2_isSo_34 : decode cX2_isSo 34 = .ok (.aload_n 1, 1) := by decide +kernel
theorem dX2_isSo_35 : decode cX2_isSo 35 = .ok (.aload_n 0, 1) := by decide +kernel
theorem dX2_isSo_36 : decode cX2_isSo 36 = .ok (.invokevirtual 356, 3) := by decide +kernel
theorem dX2_isSo_39 : decode cX2_isSo 39 = .ok (.ireturn, 1) := by decide +kernel
theorem dX2_isSo_40 : decode cX2_isSo 40 = .ok (.aload_n 0, 1) := by decide +kernel
theorem dX2_isSo_41 : decode cX2_isSo 41 = .ok (.aload_n 1, 1) := by decide +kernel
theorem dX2_isSo_42 : decode cX2_isSo 42 = .ok (.invokevirtual 360, 3) := by decide +kernel
theorem dX2_isSo_45 : decode cX2_isSo 45 = .ok (.ireturn, 1) := by decide +kernel
theorem dX2_isSo_46 : decode cX2_isSo 46 = .ok (.aload_n 0, 1) := by decide +kernel
theorem dX2_isSo_47 : decode cX2_isSo 47 = .ok (.aload_n 1, 1) := by decide +kernel
theorem dX2_isSo_48 : decode cX2_isSo 48 = .ok (.invokevirtual 363, 3) := by decide +kernel
theorem dX2_isSo_51 : decode cX2_isSo 51 = .ok (.ireturn, 1) := by decide +kernel
set_option maxHeartbeats 4000000 in
set_option maxRecDepth 20000 in
theorem c_X2_isSo (tys : List (ClassId × FieldType)) (ws : va_W) (q0 a0 : Nat) (s0 : Int64) (n0 o0 : Int32) (h0 : ws[q0]? = some (a0, .inr (2, [.long s0, .int n0, .int o0]))) (q1 a1 : Nat) (s1 : Int64) (n1 o1 : Int32) (h1 : ws[q1]? = some (a1, .inr (2, [.long s1, .int n1, .int o1]))) (p2 : Int32) : mCt tys yX2_isSo cX2_isSo 3 (some .boolean) ⟨3, 0, 0, 66⟩ [.ref a0, .ref a1, .int p2] ws (mRb ws) mNo := by
  refine mCt.of (by decide +kernel) (Nat.le_of_ble_eq_true rfl) (fun X hX hE => ?_)
  have hX : mOK X RX2 cX2_isSo 3 ⟨3, 0, 0, 66⟩ [] tys := hX
  refine r_iload_n hX dX2_isSo_0 rfl rfl ?_
  by_cases s1 : p2.toInt = 0
  · refine r_tableIn (off := 27) (tgt := 28) hX dX2_isSo_1 (by omega) (by omega) (by rw [s1]; rfl) (by decide) ?_
    refine r_aload_n hX dX2_isSo_28 rfl rfl ?_
    refine r_aload_n hX dX2_isSo_29 rfl rfl ?_
    refine r_callV hX (c_X1_isAhead _ _ q0 _ _ _ _ h0 q1 _ _ _ _ h1) kv_X2_356 q0 h0 rfl rfl rfl (Nat.le_of_ble_eq_true rfl) ⟨(Nat.le_of_ble_eq_true rfl), (Nat.le_of_ble_eq_true rfl)⟩ ⟨(Nat.le_of_ble_eq_true rfl), (Nat.le_of_ble_eq_true rfl)⟩ dX2_isSo_30 (fun _ _ z => False.elim z) (fun v9 ws9 h2 => ?_)
    obtain ⟨r4, br4, rfl, hw9⟩ := h2
    subst ws9
    dsimp only [mPush]
    exact r_zret hX hE dX2_isSo_33 (mB_n br4) (Nat.le_of_ble_eq_true rfl) (Nat.le_of_ble_eq_true rfl) ⟨_, br4, rfl, rfl⟩
  by_cases s5 : p2.toInt = 1
  · refine r_tableIn (off := 33) (tgt := 34) hX dX2_isSo_1 (by omega) (by omega) (by rw [s5]; rfl) (by decide) ?_
    refine r_aload_n hX dX2_isSo_34 rfl rfl ?_
    refine r_aload_n hX dX2_isSo_35 rfl rfl ?_
    refine r_callV hX (c_X1_isAhead _ _ q1 _ _ _ _ h1 q0 _ _ _ _ h0) kv_X2_356 q1 h1 rfl rfl rfl (Nat.le_of_ble_eq_true rfl) ⟨(Nat.le_of_ble_eq_true rfl), (Nat.le_of_ble_eq_true rfl)⟩ ⟨(Nat.le_of_ble_eq_true rfl), (Nat.le_of_ble_eq_true rfl)⟩ dX2_isSo_36 (fun _ _ z => False.elim z) (fun v9 ws9 h6 => ?_)
    obtain ⟨r8, br8, rfl, hw9⟩ := h6
    subst ws9
    dsimp only [mPush]
    exact r_zret hX hE dX2_isSo_39 (mB_n br8) (Nat.le_of_ble_eq_true rfl) (Nat.le_of_ble_eq_true rfl) ⟨_, br8, rfl, rfl⟩
  by_cases s9 : p2.toInt = 2
  · refine r_tableIn (off := 39) (tgt := 40) hX dX2_isSo_1 (by omega) (by omega) (by rw [s9]; rfl) (by decide) ?_
    refine r_aload_n hX dX2_isSo_40 rfl rfl ?_
    refine r_aload_n hX dX2_isSo_41 rfl rfl ?_
    refine r_callV hX (c_X1_isAlike _ _ q0 _ _ _ _ h0 q1 _ _ _ _ h1) kv_X2_360 q0 h0 rfl rfl rfl (Nat.le_of_ble_eq_true rfl) ⟨(Nat.le_of_ble_eq_true rfl), (Nat.le_of_ble_eq_true rfl)⟩ ⟨(Nat.le_of_ble_eq_true rfl), (Nat.le_of_ble_eq_true rfl)⟩ dX2_isSo_42 (fun _ _ z => False.elim z) (fun v9 ws9 h10 => ?_)
    obtain ⟨r12, br12, rfl, hw9⟩ := h10
    subst ws9
    dsimp only [mPush]
    exact r_zret hX hE dX2_isSo_45 (mB_n br12) (Nat.le_of_ble_eq_true rfl) (Nat.le_of_ble_eq_true rfl) ⟨_, br12, rfl, rfl⟩
  refine r_tableOut (tgt := 46) hX dX2_isSo_1 (by omega) (by decide) ?_
  refine r_aload_n hX dX2_isSo_46 rfl rfl ?_
  refine r_aload_n hX dX2_isSo_47 rfl rfl ?_
  refine r_callV hX (c_X1_isSame _ _ q0 _ _ _ _ h0 q1 _ _ _ _ h1) kv_X2_363 q0 h0 rfl rfl rfl (Nat.le_of_ble_eq_true rfl) ⟨(Nat.le_of_ble_eq_true rfl), (Nat.le_of_ble_eq_true rfl)⟩ ⟨(Nat.le_of_ble_eq_true rfl), (Nat.le_of_ble_eq_true rfl)⟩ dX2_isSo_48 (fun _ _ z => False.elim z) (fun v9 ws9 h13 => ?_)
  obtain ⟨r15, br15, rfl, hw9⟩ := h13
  subst ws9
  dsimp only [mPush]
  exact r_zret hX hE dX2_isSo_51 (mB_n br15) (Nat.le_of_ble_eq_true rfl) (Nat.le_of_ble_eq_true rfl) ⟨_, br15, rfl, rfl⟩
theorem dX2_isPairSound_0 : decode cX2_isPairSound 0 = .ok (.aload_n 0, 1) := by decide +kernel
theorem dX2_isPairSound_1 : decode cX2_isPairSound 1 = .ok (.aload_n 1, 1) := by decide +kernel
theorem dX2_isPairSound_2 : decode cX2_isPairSound 2 = .ok (.invokevirtual 356, 3) := by decide +kernel
theorem dX2_isPairSound_5 : decode cX2_isPairSound 5 = .ok (.ifCond .ne 15, 3) := by decide +kernel
theorem dX2_isPairSound_8 : decode cX2_isPairSound 8 = .ok (.aload_n 1, 1) := by decide +kernel
theorem dX2_isPairSound_9 : decode cX2_isPairSound 9 = .ok (.aload_n 0, 1) := by decide +kernel
theorem dX2_isPairSound_10 : decode cX2_isPairSound 10 = .ok (.invokevirtual 356, 3) := by decide +kernel
theorem dX2_isPairSound_13 : decode cX2_isPairSound 13 = .ok (.ifCond .ne 7, 3) := by decide +kernel
theorem dX2_isPairSound_16 : decode cX2_isPairSound 16 = .ok (.iconst 1, 1) := by decide +kernel
theorem dX2_isPairSound_17 : decode cX2_isPairSound 17 = .ok (.goto 4, 3) := by decide +kernel
theorem dX2_isPairSound_20 : decode cX2_isPairSound 20 = .ok (.iconst 0, 1) := by decide +kernel
theorem dX2_isPairSound_21 : decode cX2_isPairSound 21 = .ok (.istore_n 2, 1) := by decide +kernel
theorem dX2_isPairSound_22 : decode cX2_isPairSound 22 = .ok (.aload_n 0, 1) := by decide +kernel
theorem dX2_isPairSound_23 : decode cX2_isPairSound 23 = .ok (.aload_n 1, 1) := by decide +kernel
theorem dX2_isPairSound_24 : decode cX2_isPairSound 24 = .ok (.invokevirtual 179, 3) := by decide +kernel
theorem dX2_isPairSound_27 : decode cX2_isPairSound 27 = .ok (.istore_n 3, 1) := by decide +kernel
theorem dX2_isPairSound_28 : decode cX2_isPairSound 28 = .ok (.aload_n 0, 1) := by decide +kernel
theorem dX2_isPairSound_29 : decode cX2_isPairSound 29 = .ok (.aload_n 1, 1) := by decide +kernel
theorem dX2_isPairSound_30 : decode cX2_isPairSound 30 = .ok (.invokevirtual 360, 3) := by decide +kernel
theorem dX2_isPairSound_33 : decode cX2_isPairSound 33 = .ok (.iload_n 2, 1) := by decide +kernel
theorem dX2_isPairSound_34 : decode cX2_isPairSound 34 = .ok (.if_icmp .ne 29, 3) := by decide +kernel
theorem dX2_isPairSound_37 : decode cX2_isPairSound 37 = .ok (.iload_n 3, 1) := by decide +kernel
theorem dX2_isPairSound_38 : decode cX2_isPairSound 38 = .ok (.aload_n 1, 1) := by decide +kernel
theorem dX2_isPairSound_39 : decode cX2_isPairSound 39 = .ok (.aload_n 0, 1) := by decide +kernel
theorem dX2_isPairSound_40 : decode cX2_isPairSound 40 = .ok (.invokevirtual 179, 3) := by decide +kernel
theorem dX2_isPairSound_43 : decode cX2_isPairSound 43 = .ok (.ineg, 1) := by decide +kernel
theorem dX2_isPairSound_44 : decode cX2_isPairSound 44 = .ok (.if_icmp .ne 19, 3) := by decide +kernel
theorem dX2_isPairSound_47 : decode cX2_isPairSound 47 = .ok (.aload_n 0, 1) := by decide +kernel
theorem dX2_isPairSound_48 : decode cX2_isPairSound 48 = .ok (.aload_n 1, 1) := by decide +kernel
theorem dX2_isPairSound_49 : decode cX2_isPairSound 49 = .ok (.invokevirtual 363, 3) := by decide +kernel
theorem dX2_isPairSound_52 : decode cX2_isPairSound 52 = .ok (.ifCond .eq 7, 3) := by decide +kernel
theorem dX2_isPairSound_55 : decode cX2_isPairSound 55 = .ok (.iload_n 3, 1) := by decide +kernel
theorem dX2_isPairSound_56 : decode cX2_isPairSound 56 = .ok (.ifCond .ne 7, 3) := by decide +kernel
theorem dX2_isPairSound_59 : decode cX2_isPairSound 59 = .ok (.iconst 1, 1) := by decide +kernel
theorem dX2_isPairSound_60 : decode cX2_isPairSound 60 = .ok (.goto 4, 3) := by decide +kernel
theorem dX2_isPairSound_63 : decode cX2_isPairSound 63 = .ok (.iconst 0, 1) := by decide +kernel
theorem dX2_isPairSound_64 : decode cX2_isPairSound 64 = .ok (.ireturn, 1) := by decide +kernel
set_option maxHeartbeats 4000000 in
set_option maxRecDepth 20000 in
theorem c_X2_isPairSound (tys : List (ClassId × FieldType)) (ws : va_W) (q0 a0 : Nat) (s0 : Int64) (n0 o0 : Int32) (h0 : ws[q0]? = some (a0, .inr (2, [.long s0, .int n0, .int o0]))) (q1 a1 : Nat) (s1 : Int64) (n1 o1 : Int32) (h1 : ws[q1]? = some (a1, .inr (2, [.long s1, .int n1, .int o1]))) : mCt tys yX2_isPairSound cX2_isPairSound 4 (some .boolean) ⟨3, 0, 0, 67⟩ [.ref a0, .ref a1] ws (mRb ws) mNo := by
  refine mCt.of (by decide +kernel) (Nat.le_of_ble_eq_true rfl) (fun X hX hE => ?_)
  have hX : mOK X RX2 cX2_isPairSound 4 ⟨3, 0, 0, 67⟩ [] tys := hX
  refine r_aload_n hX dX2_isPairSound_0 rfl rfl ?_
  refine r_aload_n hX dX2_isPairSound_1 rfl rfl ?_
  refine r_callV hX (c_X1_isAhead _ _ q0 _ _ _ _ h0 q1 _ _ _ _ h1) kv_X2_356 q0 h0 rfl rfl rfl (Nat.le_of_ble_eq_true rfl) ⟨(Nat.le_of_ble_eq_true rfl), (Nat.le_of_ble_eq_true rfl)⟩ ⟨(Nat.le_of_ble_eq_true rfl), (Nat.le_of_ble_eq_true rfl)⟩ dX2_isPairSound_2 (fun _ _ z => False.elim z) (fun v9 ws9 h1 => ?_)
  obtain ⟨r3, br3, rfl, hw9⟩ := h1
  subst ws9
  dsimp only [mPush]
  refine r_if_ne (tgt := 20) hX dX2_isPairSound_5 (by decide) (fun c4 => ?_) (fun c4 => ?_)
  · refine r_iconst (v := 0) hX dX2_isPairSound_20 (by decide) ?_
    refine r_istore_n hX dX2_isPairSound_21 rfl (by decide) rfl ?_
    refine r_aload_n hX dX2_isPairSound_22 rfl rfl ?_
    refine r_aload_n hX dX2_isPairSound_23 rfl rfl ?_
    refine r_callV hX (c_X1_orderTo _ _ q0 _ _ _ _ h0 q1 _ _ _ _ h1) kv_X2_179 q0 h0 rfl rfl rfl (Nat.le_of_ble_eq_true rfl) ⟨(Nat.le_of_ble_eq_true rfl), (Nat.le_of_ble_eq_true rfl)⟩ ⟨(Nat.le_of_ble_eq_true rfl), (Nat.le_of_ble_eq_true rfl)⟩ dX2_isPairSound_24 (fun _ _ z => False.elim z) (fun v9 ws9 h5 => ?_)
    obtain ⟨r7, rfl, hw9⟩ := h5
    subst ws9
    dsimp only [mPush]
    refine r_istore_n hX dX2_isPairSound_27 rfl (by decide) rfl ?_
    refine r_aload_n hX dX2_isPairSound_28 rfl rfl ?_
    refine r_aload_n hX dX2_isPairSound_29 rfl rfl ?_
    refine r_callV hX (c_X1_isAlike _ _ q0 _ _ _ _ h0 q1 _ _ _ _ h1) kv_X2_360 q0 h0 rfl rfl rfl (Nat.le_of_ble_eq_true rfl) ⟨(Nat.le_of_ble_eq_true rfl), (Nat.le_of_ble_eq_true rfl)⟩ ⟨(Nat.le_of_ble_eq_true rfl), (Nat.le_of_ble_eq_true rfl)⟩ dX2_isPairSound_30 (fun _ _ z => False.elim z) (fun v9 ws9 h8 => ?_)
    obtain ⟨r10, br10, rfl, hw9⟩ := h8
    subst ws9
    dsimp only [mPush]
    refine r_iload_n hX dX2_isPairSound_33 rfl rfl ?_
    refine r_icmp_ne (tgt := 63) hX dX2_isPairSound_34 (by decide) (fun c11 => ?_) (fun c11 => ?_)
    · refine r_iconst (v := 0) hX dX2_isPairSound_63 (by decide) ?_
      exact r_zret hX hE dX2_isPairSound_64 (mB_n (Or.inl rfl)) (Nat.le_of_ble_eq_true rfl) (Nat.le_of_ble_eq_true rfl) ⟨_, (Or.inl rfl), rfl, rfl⟩
    · refine r_iload_n hX dX2_isPairSound_37 rfl rfl ?_
      refine r_aload_n hX dX2_isPairSound_38 rfl rfl ?_
      refine r_aload_n hX dX2_isPairSound_39 rfl rfl ?_
      refine r_callV hX (c_X1_orderTo _ _ q1 _ _ _ _ h1 q0 _ _ _ _ h0) kv_X2_179 q1 h1 rfl rfl rfl (Nat.le_of_ble_eq_true rfl) ⟨(Nat.le_of_ble_eq_true rfl), (Nat.le_of_ble_eq_true rfl)⟩ ⟨(Nat.le_of_ble_eq_true rfl), (Nat.le_of_ble_eq_true rfl)⟩ dX2_isPairSound_40 (fun _ _ z => False.elim z) (fun v9 ws9 h12 => ?_)
      obtain ⟨r14, rfl, hw9⟩ := h12
      subst ws9
      dsimp only [mPush]
      refine r_ineg hX dX2_isPairSound_43 ?_
      refine r_icmp_ne (tgt := 63) hX dX2_isPairSound_44 (by decide) (fun c15 => ?_) (fun c15 => ?_)
      · refine r_iconst (v := 0) hX dX2_isPairSound_63 (by decide) ?_
        exact r_zret hX hE dX2_isPairSound_64 (mB_n (Or.inl rfl)) (Nat.le_of_ble_eq_true rfl) (Nat.le_of_ble_eq_true rfl) ⟨_, (Or.inl rfl), rfl, rfl⟩
      · refine r_aload_n hX dX2_isPairSound_47 rfl rfl ?_
        refine r_aload_n hX dX2_isPairSound_48 rfl rfl ?_
        refine r_callV hX (c_X1_isSame _ _ q0 _ _ _ _ h0 q1 _ _ _ _ h1) kv_X2_363 q0 h0 rfl rfl rfl (Nat.le_of_ble_eq_true rfl) ⟨(Nat.le_of_ble_eq_true rfl), (Nat.le_of_ble_eq_true rfl)⟩ ⟨(Nat.le_of_ble_eq_true rfl), (Nat.le_of_ble_eq_true rfl)⟩ dX2_isPairSound_49 (fun _ _ z => False.elim z) (fun v9 ws9 h16 => ?_)
        obtain ⟨r18, br18, rfl, hw9⟩ := h16
        subst ws9
        dsimp only [mPush]
        refine r_if_eq (tgt := 59) hX dX2_isPairSound_52 (by decide) (fun c19 => ?_) (fun c19 => ?_)
        · refine r_iconst (v := 1) hX dX2_isPairSound_59 (by decide) ?_
          refine r_goto (tgt := 64) hX dX2_isPairSound_60 (by decide) ?_
          exact r_zret hX hE dX2_isPairSound_64 (mB_n (Or.inr rfl)) (Nat.le_of_ble_eq_true rfl) (Nat.le_of_ble_eq_true rfl) ⟨_, (Or.inr rfl), rfl, rfl⟩
        · refine r_iload_n hX dX2_isPairSound_55 rfl rfl ?_
          refine r_if_ne (tgt := 63) hX dX2_isPairSound_56 (by decide) (fun c20 => ?_) (fun c20 => ?_)
          · refine r_iconst (v := 0) hX dX2_isPairSound_63 (by decide) ?_
            exact r_zret hX hE dX2_isPairSound_64 (mB_n (Or.inl rfl)) (Nat.le_of_ble_eq_true rfl) (Nat.le_of_ble_eq_true rfl) ⟨_, (Or.inl rfl), rfl, rfl⟩
          · refine r_iconst (v := 1) hX dX2_isPairSound_59 (by decide) ?_
            refine r_goto (tgt := 64) hX dX2_isPairSound_60 (by decide) ?_
            exact r_zret hX hE dX2_isPairSound_64 (mB_n (Or.inr rfl)) (Nat.le_of_ble_eq_true rfl) (Nat.le_of_ble_eq_true rfl) ⟨_, (Or.inr rfl), rfl, rfl⟩
  · refine r_aload_n hX dX2_isPairSound_8 rfl rfl ?_
    refine r_aload_n hX dX2_isPairSound_9 rfl rfl ?_
    refine r_callV hX (c_X1_isAhead _ _ q1 _ _ _ _ h1 q0 _ _ _ _ h0) kv_X2_356 q1 h1 rfl rfl rfl (Nat.le_of_ble_eq_true rfl) ⟨(Nat.le_of_ble_eq_true rfl), (Nat.le_of_ble_eq_true rfl)⟩ ⟨(Nat.le_of_ble_eq_true rfl), (Nat.le_of_ble_eq_true rfl)⟩ dX2_isPairSound_10 (fun _ _ z => False.elim z) (fun v9 ws9 h21 => ?_)
    obtain ⟨r23, br23, rfl, hw9⟩ := h21
    subst ws9
    dsimp only [mPush]
    refine r_if_ne (tgt := 20) hX dX2_isPairSound_13 (by decide) (fun c24 => ?_) (fun c24 => ?_)
    · refine r_iconst (v := 0) hX dX2_isPairSound_20 (by decide) ?_
      refine r_istore_n hX dX2_isPairSound_21 rfl (by decide) rfl ?_
      refine r_aload_n hX dX2_isPairSound_22 rfl rfl ?_
      refine r_aload_n hX dX2_isPairSound_23 rfl rfl ?_
      refine r_callV hX (c_X1_orderTo _ _ q0 _ _ _ _ h0 q1 _ _ _ _ h1) kv_X2_179 q0 h0 rfl rfl rfl (Nat.le_of_ble_eq_true rfl) ⟨(Nat.le_of_ble_eq_true rfl), (Nat.le_of_ble_eq_true rfl)⟩ ⟨(Nat.le_of_ble_eq_true rfl), (Nat.le_of_ble_eq_true rfl)⟩ dX2_isPairSound_24 (fun _ _ z => False.elim z) (fun v9 ws9 h25 => ?_)
      obtain ⟨r27, rfl, hw9⟩ := h25
      subst ws9
      dsimp only [mPush]
      refine r_istore_n hX dX2_isPairSound_27 rfl (by decide) rfl ?_
      refine r_aload_n hX dX2_isPairSound_28 rfl rfl ?_
      refine r_aload_n hX dX2_isPairSound_29 rfl rfl ?_
      refine r_callV hX (c_X1_isAlike _ _ q0 _ _ _ _ h0 q1 _ _ _ _ h1) kv_X2_360 q0 h0 rfl rfl rfl (Nat.le_of_ble_eq_true rfl) ⟨(Nat.le_of_ble_eq_true rfl), (Nat.le_of_ble_eq_true rfl)⟩ ⟨(Nat.le_of_ble_eq_true rfl), (Nat.le_of_ble_eq_true rfl)⟩ dX2_isPairSound_30 (fun _ _ z => False.elim z) (fun v9 ws9 h28 => ?_)
      obtain ⟨r30, br30, rfl, hw9⟩ := h28
      subst ws9
      dsimp only [mPush]
      refine r_iload_n hX dX2_isPairSound_33 rfl rfl ?_
      refine r_icmp_ne (tgt := 63) hX dX2_isPairSound_34 (by decide) (fun c31 => ?_) (fun c31 => ?_)
      · refine r_iconst (v := 0) hX dX2_isPairSound_63 (by decide) ?_
        exact r_zret hX hE dX2_isPairSound_64 (mB_n (Or.inl rfl)) (Nat.le_of_ble_eq_true rfl) (Nat.le_of_ble_eq_true rfl) ⟨_, (Or.inl rfl), rfl, rfl⟩
      · refine r_iload_n hX dX2_isPairSound_37 rfl rfl ?_
        refine r_aload_n hX dX2_isPairSound_38 rfl rfl ?_
        refine r_aload_n hX dX2_isPairSound_39 rfl rfl ?_
        refine r_callV hX (c_X1_orderTo _ _ q1 _ _ _ _ h1 q0 _ _ _ _ h0) kv_X2_179 q1 h1 rfl rfl rfl (Nat.le_of_ble_eq_true rfl) ⟨(Nat.le_of_ble_eq_true rfl), (Nat.le_of_ble_eq_true rfl)⟩ ⟨(Nat.le_of_ble_eq_true rfl), (Nat.le_of_ble_eq_true rfl)⟩ dX2_isPairSound_40 (fun _ _ z => False.elim z) (fun v9 ws9 h32 => ?_)
        obtain ⟨r34, rfl, hw9⟩ := h32
        subst ws9
        dsimp only [mPush]
        refine r_ineg hX dX2_isPairSound_43 ?_
        refine r_icmp_ne (tgt := 63) hX dX2_isPairSound_44 (by decide) (fun c35 => ?_) (fun c35 => ?_)
        · refine r_iconst (v := 0) hX dX2_isPairSound_63 (by decide) ?_
          exact r_zret hX hE dX2_isPairSound_64 (mB_n (Or.inl rfl)) (Nat.le_of_ble_eq_true rfl) (Nat.le_of_ble_eq_true rfl) ⟨_, (Or.inl rfl), rfl, rfl⟩
        · refine r_aload_n hX dX2_isPairSound_47 rfl rfl ?_
          refine r_aload_n hX dX2_isPairSound_48 rfl rfl ?_
          refine r_callV hX (c_X1_isSame _ _ q0 _ _ _ _ h0 q1 _ _ _ _ h1) kv_X2_363 q0 h0 rfl rfl rfl (Nat.le_of_ble_eq_true rfl) ⟨(Nat.le_of_ble_eq_true rfl), (Nat.le_of_ble_eq_true rfl)⟩ ⟨(Nat.le_of_ble_eq_true rfl), (Nat.le_of_ble_eq_true rfl)⟩ dX2_isPairSound_49 (fun _ _ z => False.elim z) (fun v9 ws9 h36 => ?_)
          obtain ⟨r38, br38, rfl, hw9⟩ := h36
          subst ws9
          dsimp only [mPush]
          refine r_if_eq (tgt := 59) hX dX2_isPairSound_52 (by decide) (fun c39 => ?_) (fun c39 => ?_)
          · refine r_iconst (v := 1) hX dX2_isPairSound_59 (by decide) ?_
            refine r_goto (tgt := 64) hX dX2_isPairSound_60 (by decide) ?_
            exact r_zret hX hE dX2_isPairSound_64 (mB_n (Or.inr rfl)) (Nat.le_of_ble_eq_true rfl) (Nat.le_of_ble_eq_true rfl) ⟨_, (Or.inr rfl), rfl, rfl⟩
          · refine r_iload_n hX dX2_isPairSound_55 rfl rfl ?_
            refine r_if_ne (tgt := 63) hX dX2_isPairSound_56 (by decide) (fun c40 => ?_) (fun c40 => ?_)
            · refine r_iconst (v := 0) hX dX2_isPairSound_63 (by decide) ?_
              exact r_zret hX hE dX2_isPairSound_64 (mB_n (Or.inl rfl)) (Nat.le_of_ble_eq_true rfl) (Nat.le_of_ble_eq_true rfl) ⟨_, (Or.inl rfl), rfl, rfl⟩
            · refine r_iconst (v := 1) hX dX2_isPairSound_59 (by decide) ?_
              refine r_goto (tgt := 64) hX dX2_isPairSound_60 (by decide) ?_
              exact r_zret hX hE dX2_isPairSound_64 (mB_n (Or.inr rfl)) (Nat.le_of_ble_eq_true rfl) (Nat.le_of_ble_eq_true rfl) ⟨_, (Or.inr rfl), rfl, rfl⟩
    · refine r_iconst (v := 1) hX dX2_isPairSound_16 (by decide) ?_
      refine r_goto (tgt := 21) hX dX2_isPairSound_17 (by decide) ?_
      refine r_istore_n hX dX2_isPairSound_21 rfl (by decide) rfl ?_
      refine r_aload_n hX dX2_isPairSound_22 rfl rfl ?_
      refine r_aload_n hX dX2_isPairSound_23 rfl rfl ?_
      refine r_callV hX (c_X1_orderTo _ _ q0 _ _ _ _ h0 q1 _ _ _ _ h1) kv_X2_179 q0 h0 rfl rfl rfl (Nat.le_of_ble_eq_true rfl) ⟨(Nat.le_of_ble_eq_true rfl), (Nat.le_of_ble_eq_true rfl)⟩ ⟨(Nat.le_of_ble_eq_true rfl), (Nat.le_of_ble_eq_true rfl)⟩ dX2_isPairSound_24 (fun _ _ z => False.elim z) (fun v9 ws9 h41 => ?_)
      obtain ⟨r43, rfl, hw9⟩ := h41
      subst ws9
      dsimp only [mPush]
      refine r_istore_n hX dX2_isPairSound_27 rfl (by decide) rfl ?_
      refine r_aload_n hX dX2_isPairSound_28 rfl rfl ?_
      refine r_aload_n hX dX2_isPairSound_29 rfl rfl ?_
      refine r_callV hX (c_X1_isAlike _ _ q0 _ _ _ _ h0 q1 _ _ _ _ h1) kv_X2_360 q0 h0 rfl rfl rfl (Nat.le_of_ble_eq_true rfl) ⟨(Nat.le_of_ble_eq_true rfl), (Nat.le_of_ble_eq_true rfl)⟩ ⟨(Nat.le_of_ble_eq_true rfl), (Nat.le_of_ble_eq_true rfl)⟩ dX2_isPairSound_30 (fun _ _ z => False.elim z) (fun v9 ws9 h44 => ?_)
      obtain ⟨r46, br46, rfl, hw9⟩ := h44
      subst ws9
      dsimp only [mPush]
      refine r_iload_n hX dX2_isPairSound_33 rfl rfl ?_
      refine r_icmp_ne (tgt := 63) hX dX2_isPairSound_34 (by decide) (fun c47 => ?_) (fun c47 => ?_)
      · refine r_iconst (v := 0) hX dX2_isPairSound_63 (by decide) ?_
        exact r_zret hX hE dX2_isPairSound_64 (mB_n (Or.inl rfl)) (Nat.le_of_ble_eq_true rfl) (Nat.le_of_ble_eq_true rfl) ⟨_, (Or.inl rfl), rfl, rfl⟩
      · refine r_iload_n hX dX2_isPairSound_37 rfl rfl ?_
        refine r_aload_n hX dX2_isPairSound_38 rfl rfl ?_
        refine r_aload_n hX dX2_isPairSound_39 rfl rfl ?_
        refine r_callV hX (c_X1_orderTo _ _ q1 _ _ _ _ h1 q0 _ _ _ _ h0) kv_X2_179 q1 h1 rfl rfl rfl (Nat.le_of_ble_eq_true rfl) ⟨(Nat.le_of_ble_eq_true rfl), (Nat.le_of_ble_eq_true rfl)⟩ ⟨(Nat.le_of_ble_eq_true rfl), (Nat.le_of_ble_eq_true rfl)⟩ dX2_isPairSound_40 (fun _ _ z => False.elim z) (fun v9 ws9 h48 => ?_)
        obtain ⟨r50, rfl, hw9⟩ := h48
        subst ws9
        dsimp only [mPush]
        refine r_ineg hX dX2_isPairSound_43 ?_
        refine r_icmp_ne (tgt := 63) hX dX2_isPairSound_44 (by decide) (fun c51 => ?_) (fun c51 => ?_)
        · refine r_iconst (v := 0) hX dX2_isPairSound_63 (by decide) ?_
          exact r_zret hX hE dX2_isPairSound_64 (mB_n (Or.inl rfl)) (Nat.le_of_ble_eq_true rfl) (Nat.le_of_ble_eq_true rfl) ⟨_, (Or.inl rfl), rfl, rfl⟩
        · refine r_aload_n hX dX2_isPairSound_47 rfl rfl ?_
          refine r_aload_n hX dX2_isPairSound_48 rfl rfl ?_
          refine r_callV hX (c_X1_isSame _ _ q0 _ _ _ _ h0 q1 _ _ _ _ h1) kv_X2_363 q0 h0 rfl rfl rfl (Nat.le_of_ble_eq_true rfl) ⟨(Nat.le_of_ble_eq_true rfl), (Nat.le_of_ble_eq_true rfl)⟩ ⟨(Nat.le_of_ble_eq_true rfl), (Nat.le_of_ble_eq_true rfl)⟩ dX2_isPairSound_49 (fun _ _ z => False.elim z) (fun v9 ws9 h52 => ?_)
          obtain ⟨r54, br54, rfl, hw9⟩ := h52
          subst ws9
          dsimp only [mPush]
          refine r_if_eq (tgt := 59) hX dX2_isPairSound_52 (by decide) (fun c55 => ?_) (fun c55 => ?_)
          · refine r_iconst (v := 1) hX dX2_isPairSound_59 (by decide) ?_
            refine r_goto (tgt := 64) hX dX2_isPairSound_60 (by decide) ?_
            exact r_zret hX hE dX2_isPairSound_64 (mB_n (Or.inr rfl)) (Nat.le_of_ble_eq_true rfl) (Nat.le_of_ble_eq_true rfl) ⟨_, (Or.inr rfl), rfl, rfl⟩
          · refine r_iload_n hX dX2_isPairSound_55 rfl rfl ?_
            refine r_if_ne (tgt := 63) hX dX2_isPairSound_56 (by decide) (fun c56 => ?_) (fun c56 => ?_)
            · refine r_iconst (v := 0) hX dX2_isPairSound_63 (by decide) ?_
              exact r_zret hX hE dX2_isPairSound_64 (mB_n (Or.inl rfl)) (Nat.le_of_ble_eq_true rfl) (Nat.le_of_ble_eq_true rfl) ⟨_, (Or.inl rfl), rfl, rfl⟩
            · refine r_iconst (v := 1) hX dX2_isPairSound_59 (by decide) ?_
              refine r_goto (tgt := 64) hX dX2_isPairSound_60 (by decide) ?_
              exact r_zret hX hE dX2_isPairSound_64 (mB_n (Or.inr rfl)) (Nat.le_of_ble_eq_true rfl) (Nat.le_of_ble_eq_true rfl) ⟨_, (Or.inr rfl), rfl, rfl⟩
end
section
/-! The class, its contracts (rows by a program of this repository). -/
theorem dX2_refused_0 : decode cX2_refused 0 = .ok (.aload_n 0, 1) := by decide +kernel
theorem dX2_refused_1 : decode cX2_refused 1 = .ok (.dup, 1) := by decide +kernel
theorem dX2_refused_2 : decode cX2_refused 2 = .ok (.getfield 199, 3) := by decide +kernel
theorem dX2_refused_5 : decode cX2_refused 5 = .ok (.iconst 1, 1) := by decide +kernel
theorem dX2_refused_6 : decode cX2_refused 6 = .ok (.iadd, 1) := by decide +kernel
theorem dX2_refused_7 : decode cX2_refused 7 = .ok (.putfield 199, 3) := by decide +kernel
theorem dX2_refused_10 : decode cX2_refused 10 = .ok (.bipush (-9), 2) := by decide +kernel
theorem dX2_refused_12 : decode cX2_refused 12 = .ok (.ireturn, 1) := by decide +kernel
set_option maxHeartbeats 4000000 in
set_option maxRecDepth 20000 in
theorem c_X2_refused (ad : Nat → Nat) (cs : ClassId × ClassId × ClassId) (K : mK) (rest : va_W) : mCt (mTy cs) yX2_refused cX2_refused 1 (some .int) ⟨0, 0, 0, 0⟩ [.ref (ad 0)] (mWd ad cs K rest) (mWi ad cs K rest) mNo := by
  refine mCt.of (by decide +kernel) (Nat.le_of_ble_eq_true rfl) (fun X hX hE => ?_)
  have hX : mOK X RX2 cX2_refused 1 ⟨0, 0, 0, 0⟩ [] (mTy cs) := hX
  refine r_aload_n hX dX2_refused_0 rfl rfl ?_
  refine r_dup hX dX2_refused_1 rfl ?_
  refine r_get hX kf_X2_199 0 rfl rfl dX2_refused_2 ?_
  refine r_iconst (v := 1) hX dX2_refused_5 (by decide) ?_
  refine r_iadd hX dX2_refused_6 ?_
  refine r_put hX kf_X2_199 0 rfl rfl rfl rfl (Nat.le_of_ble_eq_true rfl) dX2_refused_7 ?_
  refine r_bipush (v := -9) hX dX2_refused_10 (by decide) ?_
  exact r_iret hX hE dX2_refused_12 (Nat.le_of_ble_eq_true rfl) (Nat.le_of_ble_eq_true rfl) ⟨_, (K.1, K.2.1, K.2.2.1, K.2.2.2.1, K.2.2.2.2 + 1), rfl, rfl, rfl⟩
theorem dX2_putNumber_0 : decode cX2_putNumber 0 = .ok (.iload_n 1, 1) := by decide +kernel
theorem dX2_putNumber_1 : decode cX2_putNumber 1 = .ok (.aload_n 0, 1) := by decide +kernel
theorem dX2_putNumber_2 : decode cX2_putNumber 2 = .ok (.getfield 13, 3) := by decide +kernel
theorem dX2_putNumber_5 : decode cX2_putNumber 5 = .ok (.arraylength, 1) := by decide +kernel
theorem dX2_putNumber_6 : decode cX2_putNumber 6 = .ok (.invokestatic 34, 3) := by decide +kernel
theorem dX2_putNumber_9 : decode cX2_putNumber 9 = .ok (.lload_n 2, 1) := by decide +kernel
theorem dX2_putNumber_10 : decode cX2_putNumber 10 = .ok (.ldc2_w 262, 3) := by decide +kernel
theorem dX2_putNumber_13 : decode cX2_putNumber 13 = .ok (.ldc2_w 264, 3) := by decide +kernel
theorem dX2_putNumber_16 : decode cX2_putNumber 16 = .ok (.invokestatic 48, 3) := by decide +kernel
theorem dX2_putNumber_19 : decode cX2_putNumber 19 = .ok (.ifCond .ne 8, 3) := by decide +kernel
theorem dX2_putNumber_22 : decode cX2_putNumber 22 = .ok (.aload_n 0, 1) := by decide +kernel
theorem dX2_putNumber_23 : decode cX2_putNumber 23 = .ok (.invokevirtual 56, 3) := by decide +kernel
theorem dX2_putNumber_26 : decode cX2_putNumber 26 = .ok (.ireturn, 1) := by decide +kernel
theorem dX2_putNumber_27 : decode cX2_putNumber 27 = .ok (.aload_n 0, 1) := by decide +kernel
theorem dX2_putNumber_28 : decode cX2_putNumber 28 = .ok (.getfield 13, 3) := by decide +kernel
theorem dX2_putNumber_31 : decode cX2_putNumber 31 = .ok (.iload_n 1, 1) := by decide +kernel
theorem dX2_putNumber_32 : decode cX2_putNumber 32 = .ok (.lload_n 2, 1) := by decide +kernel
theorem dX2_putNumber_33 : decode cX2_putNumber 33 = .ok (.lastore, 1) := by decide +kernel
theorem dX2_putNumber_34 : decode cX2_putNumber 34 = .ok (.lload_n 2, 1) := by decide +kernel
theorem dX2_putNumber_35 : decode cX2_putNumber 35 = .ok (.invokestatic 92, 3) := by decide +kernel
theorem dX2_putNumber_38 : decode cX2_putNumber 38 = .ok (.ireturn, 1) := by decide +kernel
set_option maxHeartbeats 4000000 in
set_option maxRecDepth 20000 in
theorem c_X2_putNumber (ad : Nat → Nat) (cs : ClassId × ClassId × ClassId) (K : mK) (rest : va_W) (j0 : Nat) (hj0 : j0 < 4) (p1 : Int64) : mCt (mTy cs) yX2_putNumber cX2_putNumber 4 (some .int) ⟨2, 0, 0, 46⟩ [.ref (ad 0), .int (nI j0), .long p1] (mWd ad cs K rest) (mWi ad cs K rest) mNo := by
  refine mCt.of (by decide +kernel) (Nat.le_of_ble_eq_true rfl) (fun X hX hE => ?_)
  have hX : mOK X RX2 cX2_putNumber 4 ⟨2, 0, 0, 46⟩ [] (mTy cs) := hX
  refine r_iload_n hX dX2_putNumber_0 rfl rfl ?_
  refine r_aload_n hX dX2_putNumber_1 rfl rfl ?_
  refine r_get hX kf_X2_13 0 rfl rfl dX2_putNumber_2 ?_
  refine r_alen (v := nI 4) hX 2 1 rfl rfl rfl dX2_putNumber_5 ?_
  refine r_callS hX (c_X2_requireOne_ok _ _ 4 (by decide) j0 hj0) ks_X2_34 rfl rfl (Nat.le_of_ble_eq_true rfl) ⟨(Nat.le_of_ble_eq_true rfl), (Nat.le_of_ble_eq_true rfl)⟩ ⟨(Nat.le_of_ble_eq_true rfl), (Nat.le_of_ble_eq_true rfl)⟩ dX2_putNumber_6 (fun _ _ z => False.elim z) (fun v9 ws9 h1 => ?_)
  obtain ⟨rfl, hw9⟩ := h1
  subst ws9
  dsimp only [mPush]
  refine r_lload_n hX dX2_putNumber_9 rfl rfl ?_
  refine r_ldc2 hX kc_X2_262 dX2_putNumber_10 ?_
  refine r_ldc2 hX kc_X2_264 dX2_putNumber_13 ?_
  refine r_callS hX (c_X2_isWithin _ _ _ _ _) ks_X2_48 rfl rfl (Nat.le_of_ble_eq_true rfl) ⟨(Nat.le_of_ble_eq_true rfl), (Nat.le_of_ble_eq_true rfl)⟩ ⟨(Nat.le_of_ble_eq_true rfl), (Nat.le_of_ble_eq_true rfl)⟩ dX2_putNumber_16 (fun _ _ z => False.elim z) (fun v9 ws9 h3 => ?_)
  obtain ⟨rfl, hw9⟩ := h3
  subst ws9
  dsimp only [mPush]
  refine r_if_ne (tgt := 27) hX dX2_putNumber_19 (by decide) (fun c5 => ?_) (fun c5 => ?_)
  · refine r_aload_n hX dX2_putNumber_27 rfl rfl ?_
    refine r_get hX kf_X2_13 0 rfl rfl dX2_putNumber_28 ?_
    refine r_iload_n hX dX2_putNumber_31 rfl rfl ?_
    refine r_lload_n hX dX2_putNumber_32 rfl rfl ?_
    refine r_last hX 2 1 rfl rfl (vp_in_nI hj0 (by decide)) dX2_putNumber_33 ?_
    refine r_lload_n hX dX2_putNumber_34 rfl rfl ?_
    refine r_callS hX (c_X2_nanoOf _ _ _) ks_X2_92 rfl rfl (Nat.le_of_ble_eq_true rfl) ⟨(Nat.le_of_ble_eq_true rfl), (Nat.le_of_ble_eq_true rfl)⟩ ⟨(Nat.le_of_ble_eq_true rfl), (Nat.le_of_ble_eq_true rfl)⟩ dX2_putNumber_35 (fun _ _ z => False.elim z) (fun v9 ws9 h6 => ?_)
    obtain ⟨r8, rfl, hw9⟩ := h6
    subst ws9
    dsimp only [mPush]
    exact r_iret hX hE dX2_putNumber_38 (Nat.le_of_ble_eq_true rfl) (Nat.le_of_ble_eq_true rfl) ⟨_, (K.1, vp_updL K.2.1 _ _, K.2.2), rfl, rfl, rfl⟩
  · refine r_aload_n hX dX2_putNumber_22 rfl rfl ?_
    refine r_callV hX (c_X2_refused _ _ _ _) kv_X2_56 0 rfl rfl rfl rfl (Nat.le_of_ble_eq_true rfl) ⟨(Nat.le_of_ble_eq_true rfl), (Nat.le_of_ble_eq_true rfl)⟩ ⟨(Nat.le_of_ble_eq_true rfl), (Nat.le_of_ble_eq_true rfl)⟩ dX2_putNumber_23 (fun _ _ z => False.elim z) (fun v9 ws9 h9 => ?_)
    obtain ⟨r11, K12, hK12, rfl, hw9⟩ := h9
    subst ws9
    dsimp only [mPush]
    exact r_iret hX hE dX2_putNumber_26 (Nat.le_of_ble_eq_true rfl) (Nat.le_of_ble_eq_true rfl) ⟨_, _, (hK12.trans rfl), rfl, rfl⟩
theorem dX2_putLocal_0 : decode cX2_putLocal 0 = .ok (.lload_n 2, 1) := by decide +kernel
theorem dX2_putLocal_1 : decode cX2_putLocal 1 = .ok (.ldc2_w 266, 3) := by decide +kernel
theorem dX2_putLocal_4 : decode cX2_putLocal 4 = .ok (.ldc2_w 268, 3) := by decide +kernel
theorem dX2_putLocal_7 : decode cX2_putLocal 7 = .ok (.invokestatic 48, 3) := by decide +kernel
theorem dX2_putLocal_10 : decode cX2_putLocal 10 = .ok (.ifCond .ne 8, 3) := by decide +kernel
theorem dX2_putLocal_13 : decode cX2_putLocal 13 = .ok (.aload_n 0, 1) := by decide +kernel
theorem dX2_putLocal_14 : decode cX2_putLocal 14 = .ok (.invokevirtual 56, 3) := by decide +kernel
theorem dX2_putLocal_17 : decode cX2_putLocal 17 = .ok (.ireturn, 1) := by decide +kernel
theorem dX2_putLocal_18 : decode cX2_putLocal 18 = .ok (.aload_n 1, 1) := by decide +kernel
theorem dX2_putLocal_19 : decode cX2_putLocal 19 = .ok (.lload_n 2, 1) := by decide +kernel
theorem dX2_putLocal_20 : decode cX2_putLocal 20 = .ok (.iload 4, 2) := by decide +kernel
theorem dX2_putLocal_22 : decode cX2_putLocal 22 = .ok (.iload 5, 2) := by decide +kernel
theorem dX2_putLocal_24 : decode cX2_putLocal 24 = .ok (.invokevirtual 270, 3) := by decide +kernel
theorem dX2_putLocal_27 : decode cX2_putLocal 27 = .ok (.aload_n 1, 1) := by decide +kernel
theorem dX2_putLocal_28 : decode cX2_putLocal 28 = .ok (.invokevirtual 274, 3) := by decide +kernel
theorem dX2_putLocal_31 : decode cX2_putLocal 31 = .ok (.ireturn, 1) := by decide +kernel
set_option maxHeartbeats 4000000 in
set_option maxRecDepth 20000 in
theorem c_X2_putLocal (ad : Nat → Nat) (cs : ClassId × ClassId × ClassId) (K : mK) (rest : va_W) (d0 : Nat) (hd0 : d0 < 9) (p1 : Int64) (p2 : Int32) (p3 : Int32) : mCt (mTy cs) yX2_putLocal cX2_putLocal 6 (some .int) ⟨2, 0, 0, 45⟩ [.ref (ad 0), .ref (ad (d0 + 5)), .long p1, .int p2, .int p3] (mWd ad cs K rest) (mWi ad cs K rest) mNo := by
  refine mCt.of (by decide +kernel) (Nat.le_of_ble_eq_true rfl) (fun X hX hE => ?_)
  have hX : mOK X RX2 cX2_putLocal 6 ⟨2, 0, 0, 45⟩ [] (mTy cs) := hX
  refine r_lload_n hX dX2_putLocal_0 rfl rfl ?_
  refine r_ldc2 hX kc_X2_266 dX2_putLocal_1 ?_
  refine r_ldc2 hX kc_X2_268 dX2_putLocal_4 ?_
  refine r_callS hX (c_X2_isWithin _ _ _ _ _) ks_X2_48 rfl rfl (Nat.le_of_ble_eq_true rfl) ⟨(Nat.le_of_ble_eq_true rfl), (Nat.le_of_ble_eq_true rfl)⟩ ⟨(Nat.le_of_ble_eq_true rfl), (Nat.le_of_ble_eq_true rfl)⟩ dX2_putLocal_7 (fun _ _ z => False.elim z) (fun v9 ws9 h1 => ?_)
  obtain ⟨rfl, hw9⟩ := h1
  subst ws9
  dsimp only [mPush]
  refine r_if_ne (tgt := 18) hX dX2_putLocal_10 (by decide) (fun c3 => ?_) (fun c3 => ?_)
  · refine r_aload_n hX dX2_putLocal_18 rfl rfl ?_
    refine r_lload_n hX dX2_putLocal_19 rfl rfl ?_
    refine r_iload hX dX2_putLocal_20 rfl ?_
    refine r_iload hX dX2_putLocal_22 rfl ?_
    refine r_callV hX (c_X1_tell _ _ (d0 + 5) _ _ _ _ (mWd_loc hd0) _ _ _) kv_X2_270 (d0 + 5) (mWd_loc hd0) rfl rfl rfl (Nat.le_of_ble_eq_true rfl) ⟨(Nat.le_of_ble_eq_true rfl), (Nat.le_of_ble_eq_true rfl)⟩ ⟨(Nat.le_of_ble_eq_true rfl), (Nat.le_of_ble_eq_true rfl)⟩ dX2_putLocal_24 (fun _ _ z => False.elim z) (fun v9 ws9 h4 => ?_)
    obtain ⟨rfl, hw9⟩ := h4
    subst ws9
    dsimp only [mPush]
    rw [mWd_set (d := d0) hd0]
    refine r_aload_n hX dX2_putLocal_27 rfl rfl ?_
    refine r_callV hX (c_X1_day _ _ (d0 + 5) _ _ _ _ (mWd_loc hd0)) kv_X2_274 (d0 + 5) (mWd_loc hd0) rfl rfl rfl (Nat.le_of_ble_eq_true rfl) ⟨(Nat.le_of_ble_eq_true rfl), (Nat.le_of_ble_eq_true rfl)⟩ ⟨(Nat.le_of_ble_eq_true rfl), (Nat.le_of_ble_eq_true rfl)⟩ dX2_putLocal_28 (fun _ _ z => False.elim z) (fun v9 ws9 h6 => ?_)
    obtain ⟨r8, rfl, hw9⟩ := h6
    subst ws9
    dsimp only [mPush]
    exact r_iret hX hE dX2_putLocal_31 (Nat.le_of_ble_eq_true rfl) (Nat.le_of_ble_eq_true rfl) ⟨_, (mKL K d0 _), rfl, rfl, rfl⟩
  · refine r_aload_n hX dX2_putLocal_13 rfl rfl ?_
    refine r_callV hX (c_X2_refused _ _ _ _) kv_X2_56 0 rfl rfl rfl rfl (Nat.le_of_ble_eq_true rfl) ⟨(Nat.le_of_ble_eq_true rfl), (Nat.le_of_ble_eq_true rfl)⟩ ⟨(Nat.le_of_ble_eq_true rfl), (Nat.le_of_ble_eq_true rfl)⟩ dX2_putLocal_14 (fun _ _ z => False.elim z) (fun v9 ws9 h9 => ?_)
    obtain ⟨r11, K12, hK12, rfl, hw9⟩ := h9
    subst ws9
    dsimp only [mPush]
    exact r_iret hX hE dX2_putLocal_17 (Nat.le_of_ble_eq_true rfl) (Nat.le_of_ble_eq_true rfl) ⟨_, K12, (hK12.trans rfl), rfl, rfl⟩
theorem dX2_putClock_0 : decode cX2_putClock 0 = .ok (.aload_n 1, 1) := by decide +kernel
theorem dX2_putClock_1 : decode cX2_putClock 1 = .ok (.lload_n 2, 1) := by decide +kernel
theorem dX2_putClock_2 : decode cX2_putClock 2 = .ok (.ldc2_w 130, 3) := by decide +kernel
theorem dX2_putClock_5 : decode cX2_putClock 5 = .ok (.invokestatic 277, 3) := by decide +kernel
theorem dX2_putClock_8 : decode cX2_putClock 8 = .ok (.iload 4, 2) := by decide +kernel
theorem dX2_putClock_10 : decode cX2_putClock 10 = .ok (.iload 5, 2) := by decide +kernel
theorem dX2_putClock_12 : decode cX2_putClock 12 = .ok (.invokevirtual 270, 3) := by decide +kernel
theorem dX2_putClock_15 : decode cX2_putClock 15 = .ok (.aload_n 1, 1) := by decide +kernel
theorem dX2_putClock_16 : decode cX2_putClock 16 = .ok (.invokevirtual 169, 3) := by decide +kernel
theorem dX2_putClock_19 : decode cX2_putClock 19 = .ok (.l2i, 1) := by decide +kernel
theorem dX2_putClock_20 : decode cX2_putClock 20 = .ok (.ireturn, 1) := by decide +kernel
set_option maxHeartbeats 4000000 in
set_option maxRecDepth 20000 in
theorem c_X2_putClock (ad : Nat → Nat) (cs : ClassId × ClassId × ClassId) (K : mK) (rest : va_W) (d0 : Nat) (hd0 : d0 < 9) (p1 : Int64) (p2 : Int32) (p3 : Int32) : mCt (mTy cs) yX2_putClock cX2_putClock 6 (some .int) ⟨1, 0, 0, 25⟩ [.ref (ad 0), .ref (ad (d0 + 5)), .long p1, .int p2, .int p3] (mWd ad cs K rest) (mWi ad cs K rest) mNo := by
  refine mCt.of (by decide +kernel) (Nat.le_of_ble_eq_true rfl) (fun X hX hE => ?_)
  have hX : mOK X RX2 cX2_putClock 6 ⟨1, 0, 0, 25⟩ [] (mTy cs) := hX
  refine r_aload_n hX dX2_putClock_0 rfl rfl ?_
  refine r_lload_n hX dX2_putClock_1 rfl rfl ?_
  refine r_ldc2 hX kc_X2_130 dX2_putClock_2 ?_
  refine r_callS hX (c_J9_floorMod_f86c9 _ _ _ _ (by decide)) ks_X2_277 rfl rfl (Nat.le_of_ble_eq_true rfl) ⟨(Nat.le_of_ble_eq_true rfl), (Nat.le_of_ble_eq_true rfl)⟩ ⟨(Nat.le_of_ble_eq_true rfl), (Nat.le_of_ble_eq_true rfl)⟩ dX2_putClock_5 (fun _ _ z => False.elim z) (fun v9 ws9 h1 => ?_)
  obtain ⟨r3, rfl, hw9⟩ := h1
  subst ws9
  dsimp only [mPush]
  refine r_iload hX dX2_putClock_8 rfl ?_
  refine r_iload hX dX2_putClock_10 rfl ?_
  refine r_callV hX (c_X1_tell _ _ (d0 + 5) _ _ _ _ (mWd_loc hd0) _ _ _) kv_X2_270 (d0 + 5) (mWd_loc hd0) rfl rfl rfl (Nat.le_of_ble_eq_true rfl) ⟨(Nat.le_of_ble_eq_true rfl), (Nat.le_of_ble_eq_true rfl)⟩ ⟨(Nat.le_of_ble_eq_true rfl), (Nat.le_of_ble_eq_true rfl)⟩ dX2_putClock_12 (fun _ _ z => False.elim z) (fun v9 ws9 h4 => ?_)
  obtain ⟨rfl, hw9⟩ := h4
  subst ws9
  dsimp only [mPush]
  rw [mWd_set (d := d0) hd0]
  refine r_aload_n hX dX2_putClock_15 rfl rfl ?_
  refine r_callV hX (c_X1_momentSecond _ _ (d0 + 5) _ _ _ _ (mWd_loc hd0)) kv_X2_169 (d0 + 5) (mWd_loc hd0) rfl rfl rfl (Nat.le_of_ble_eq_true rfl) ⟨(Nat.le_of_ble_eq_true rfl), (Nat.le_of_ble_eq_true rfl)⟩ ⟨(Nat.le_of_ble_eq_true rfl), (Nat.le_of_ble_eq_true rfl)⟩ dX2_putClock_16 (fun _ _ z => False.elim z) (fun v9 ws9 h6 => ?_)
  obtain ⟨r8, rfl, hw9⟩ := h6
  subst ws9
  dsimp only [mPush]
  refine r_l2i hX dX2_putClock_19 ?_
  exact r_iret hX hE dX2_putClock_20 (Nat.le_of_ble_eq_true rfl) (Nat.le_of_ble_eq_true rfl) ⟨_, (mKL K d0 _), rfl, rfl, rfl⟩
theorem dX2_firstMoment_0 : decode cX2_firstMoment 0 = .ok (.iconst 0, 1) := by decide +kernel
theorem dX2_firstMoment_1 : decode cX2_firstMoment 1 = .ok (.istore_n 1, 1) := by decide +kernel
theorem dX2_firstMoment_2 : decode cX2_firstMoment 2 = .ok (.iconst 1, 1) := by decide +kernel
theorem dX2_firstMoment_3 : decode cX2_firstMoment 3 = .ok (.istore_n 2, 1) := by decide +kernel
theorem dX2_firstMoment_4 : decode cX2_firstMoment 4 = .ok (.iload_n 2, 1) := by decide +kernel
theorem dX2_firstMoment_5 : decode cX2_firstMoment 5 = .ok (.aload_n 0, 1) := by decide +kernel
theorem dX2_firstMoment_6 : decode cX2_firstMoment 6 = .ok (.getfield 13, 3) := by decide +kernel
theorem dX2_firstMoment_9 : decode cX2_firstMoment 9 = .ok (.arraylength, 1) := by decide +kernel
theorem dX2_firstMoment_10 : decode cX2_firstMoment 10 = .ok (.if_icmp .ge 27, 3) := by decide +kernel
theorem dX2_firstMoment_13 : decode cX2_firstMoment 13 = .ok (.aload_n 0, 1) := by decide +kernel
theorem dX2_firstMoment_14 : decode cX2_firstMoment 14 = .ok (.getfield 13, 3) := by decide +kernel
theorem dX2_firstMoment_17 : decode cX2_firstMoment 17 = .ok (.iload_n 2, 1) := by decide +kernel
theorem dX2_firstMoment_18 : decode cX2_firstMoment 18 = .ok (.laload, 1) := by decide +kernel
theorem dX2_firstMoment_19 : decode cX2_firstMoment 19 = .ok (.aload_n 0, 1) := by decide +kernel
theorem dX2_firstMoment_20 : decode cX2_firstMoment 20 = .ok (.getfield 13, 3) := by decide +kernel
theorem dX2_firstMoment_23 : decode cX2_firstMoment 23 = .ok (.iload_n 1, 1) := by decide +kernel
theorem dX2_firstMoment_24 : decode cX2_firstMoment 24 = .ok (.laload, 1) := by decide +kernel
theorem dX2_firstMoment_25 : decode cX2_firstMoment 25 = .ok (.lcmp, 1) := by decide +kernel
theorem dX2_firstMoment_26 : decode cX2_firstMoment 26 = .ok (.ifCond .ge 5, 3) := by decide +kernel
theorem dX2_firstMoment_29 : decode cX2_firstMoment 29 = .ok (.iload_n 2, 1) := by decide +kernel
theorem dX2_firstMoment_30 : decode cX2_firstMoment 30 = .ok (.istore_n 1, 1) := by decide +kernel
theorem dX2_firstMoment_31 : decode cX2_firstMoment 31 = .ok (.iinc 2 1, 3) := by decide +kernel
theorem dX2_firstMoment_34 : decode cX2_firstMoment 34 = .ok (.goto (-30), 3) := by decide +kernel
theorem dX2_firstMoment_37 : decode cX2_firstMoment 37 = .ok (.iload_n 1, 1) := by decide +kernel
theorem dX2_firstMoment_38 : decode cX2_firstMoment 38 = .ok (.ireturn, 1) := by decide +kernel
set_option maxHeartbeats 4000000 in
set_option maxRecDepth 20000 in
theorem c_X2_firstMoment (ad : Nat → Nat) (cs : ClassId × ClassId × ClassId) (K : mK) (rest : va_W) : mCt (mTy cs) yX2_firstMoment cX2_firstMoment 3 (some .int) ⟨0, 0, 0, 0⟩ [.ref (ad 0)] (mWd ad cs K rest) (mWi ad cs K rest) mNo := by
  refine mCt.of (by decide +kernel) (Nat.le_of_ble_eq_true rfl) (fun X hX hE => ?_)
  have hX : mOK X RX2 cX2_firstMoment 3 ⟨0, 0, 0, 0⟩ [] (mTy cs) := hX
  refine r_iconst (v := 0) hX dX2_firstMoment_0 (by decide) ?_
  refine r_istore_n hX dX2_firstMoment_1 rfl (by decide) rfl ?_
  refine r_iconst (v := 1) hX dX2_firstMoment_2 (by decide) ?_
  refine r_istore_n hX dX2_firstMoment_3 rfl (by decide) rfl ?_
  have L4 : ∀ (N4 j1 : Nat) (f2 : Nat), 4 - j1 < N4 → j1 ≤ 4 → f2 < 4 → ∀ K3 : mK, K3.1 = K.1 → mV X 4 [(0, some (.ref (ad 0))), (1, some (.int (nI f2))), (2, some (.int (nI j1)))] [] (mWd ad cs K3 rest) 0 0 := by
    intro N4
    induction N4 with
    | zero => intro j1 f2; omega
    | succ N4 ih4 =>
      intro j1 f2 hN4 hj1e hf2 K3 hK3
      refine r_iload_n hX dX2_firstMoment_4 rfl rfl ?_
      refine r_aload_n hX dX2_firstMoment_5 rfl rfl ?_
      refine r_get hX kf_X2_13 0 rfl rfl dX2_firstMoment_6 ?_
      refine r_alen (v := nI 4) hX 2 1 rfl rfl rfl dX2_firstMoment_9 ?_
      refine r_icmp_ge (tgt := 37) hX dX2_firstMoment_10 (by decide) (fun c5 => ?_) (fun c5 => ?_)
      · refine r_iload_n hX dX2_firstMoment_37 rfl rfl ?_
        exact r_iret hX hE dX2_firstMoment_38 (Nat.le_of_ble_eq_true rfl) (Nat.le_of_ble_eq_true rfl) ⟨_, K3, hK3, rfl, rfl⟩
      · have hj1 : j1 < 4 := mlt (by first | rfl | decide) (by decide) hj1e c5
        refine r_aload_n hX dX2_firstMoment_13 rfl rfl ?_
        refine r_get hX kf_X2_13 0 rfl rfl dX2_firstMoment_14 ?_
        refine r_iload_n hX dX2_firstMoment_17 rfl rfl ?_
        refine r_lald hX 2 1 rfl rfl (vp_in_nI hj1 (by decide)) dX2_firstMoment_18 ?_
        refine r_aload_n hX dX2_firstMoment_19 rfl rfl ?_
        refine r_get hX kf_X2_13 0 rfl rfl dX2_firstMoment_20 ?_
        refine r_iload_n hX dX2_firstMoment_23 rfl rfl ?_
        refine r_lald hX 2 1 rfl rfl (vp_in_nI hf2 (by decide)) dX2_firstMoment_24 ?_
        refine r_lcmp hX dX2_firstMoment_25 ?_
        refine r_if_ge (tgt := 31) hX dX2_firstMoment_26 (by decide) (fun c6 => ?_) (fun c6 => ?_)
        · refine r_iinc hX dX2_firstMoment_31 rfl (by decide) rfl ?_
          refine r_goto (tgt := 4) hX dX2_firstMoment_34 (by decide) ?_
          exact r_loc (k' := 0) (n' := 0) (by exact ⟨rfl, rfl, nI_inc' _, trivial⟩) (by decide) (by decide) (ih4 (j1 + 1) f2 (by omega) (by omega) hf2 _ hK3)
        · refine r_iload_n hX dX2_firstMoment_29 rfl rfl ?_
          refine r_istore_n hX dX2_firstMoment_30 rfl (by decide) rfl ?_
          refine r_iinc hX dX2_firstMoment_31 rfl (by decide) rfl ?_
          refine r_goto (tgt := 4) hX dX2_firstMoment_34 (by decide) ?_
          exact r_loc (k' := 0) (n' := 0) (by exact ⟨rfl, rfl, nI_inc' _, trivial⟩) (by decide) (by decide) (ih4 (j1 + 1) j1 (by omega) (by omega) hj1 _ hK3)
  exact r_loc (k' := 0) (n' := 0) (by exact ⟨rfl, rfl, rfl, trivial⟩) (by decide) (by decide) (L4 (4 + 1) 1 0 (by omega) (by omega) (by decide) _ rfl)
theorem dX2_putDay_0 : decode cX2_putDay 0 = .ok (.aload_n 0, 1) := by decide +kernel
theorem dX2_putDay_1 : decode cX2_putDay 1 = .ok (.aload_n 1, 1) := by decide +kernel
theorem dX2_putDay_2 : decode cX2_putDay 2 = .ok (.iload_n 2, 1) := by decide +kernel
theorem dX2_putDay_3 : decode cX2_putDay 3 = .ok (.i2l, 1) := by decide +kernel
theorem dX2_putDay_4 : decode cX2_putDay 4 = .ok (.ldc2_w 130, 3) := by decide +kernel
theorem dX2_putDay_7 : decode cX2_putDay 7 = .ok (.lmul, 1) := by decide +kernel
theorem dX2_putDay_8 : decode cX2_putDay 8 = .ok (.aload_n 1, 1) := by decide +kernel
theorem dX2_putDay_9 : decode cX2_putDay 9 = .ok (.invokevirtual 320, 3) := by decide +kernel
theorem dX2_putDay_12 : decode cX2_putDay 12 = .ok (.i2l, 1) := by decide +kernel
theorem dX2_putDay_13 : decode cX2_putDay 13 = .ok (.ladd, 1) := by decide +kernel
theorem dX2_putDay_14 : decode cX2_putDay 14 = .ok (.aload_n 1, 1) := by decide +kernel
theorem dX2_putDay_15 : decode cX2_putDay 15 = .ok (.getfield 172, 3) := by decide +kernel
theorem dX2_putDay_18 : decode cX2_putDay 18 = .ok (.aload_n 1, 1) := by decide +kernel
theorem dX2_putDay_19 : decode cX2_putDay 19 = .ok (.getfield 158, 3) := by decide +kernel
theorem dX2_putDay_22 : decode cX2_putDay 22 = .ok (.invokevirtual 132, 3) := by decide +kernel
theorem dX2_putDay_25 : decode cX2_putDay 25 = .ok (.ireturn, 1) := by decide +kernel
set_option maxHeartbeats 4000000 in
set_option maxRecDepth 20000 in
theorem c_X2_putDay (ad : Nat → Nat) (cs : ClassId × ClassId × ClassId) (K : mK) (rest : va_W) (d0 : Nat) (hd0 : d0 < 9) (p1 : Int32) : mCt (mTy cs) yX2_putDay cX2_putDay 3 (some .int) ⟨3, 0, 0, 70⟩ [.ref (ad 0), .ref (ad (d0 + 5)), .int p1] (mWd ad cs K rest) (mWi ad cs K rest) mNo := by
  refine mCt.of (by decide +kernel) (Nat.le_of_ble_eq_true rfl) (fun X hX hE => ?_)
  have hX : mOK X RX2 cX2_putDay 3 ⟨3, 0, 0, 70⟩ [] (mTy cs) := hX
  refine r_aload_n hX dX2_putDay_0 rfl rfl ?_
  refine r_aload_n hX dX2_putDay_1 rfl rfl ?_
  refine r_iload_n hX dX2_putDay_2 rfl rfl ?_
  refine r_i2l hX dX2_putDay_3 ?_
  refine r_ldc2 hX kc_X2_130 dX2_putDay_4 ?_
  refine r_lmul hX dX2_putDay_7 ?_
  refine r_aload_n hX dX2_putDay_8 rfl rfl ?_
  refine r_callV hX (c_X1_secondOfDay _ _ (d0 + 5) _ _ _ _ (mWd_loc hd0)) kv_X2_320 (d0 + 5) (mWd_loc hd0) rfl rfl rfl (Nat.le_of_ble_eq_true rfl) ⟨(Nat.le_of_ble_eq_true rfl), (Nat.le_of_ble_eq_true rfl)⟩ ⟨(Nat.le_of_ble_eq_true rfl), (Nat.le_of_ble_eq_true rfl)⟩ dX2_putDay_9 (fun _ _ z => False.elim z) (fun v9 ws9 h1 => ?_)
  obtain ⟨r3, rfl, hw9⟩ := h1
  subst ws9
  dsimp only [mPush]
  refine r_i2l hX dX2_putDay_12 ?_
  refine r_ladd hX dX2_putDay_13 ?_
  refine r_aload_n hX dX2_putDay_14 rfl rfl ?_
  refine r_getN hX kg_X2_172 (d0 + 5) (mWd_loc hd0) rfl dX2_putDay_15 ?_
  refine r_aload_n hX dX2_putDay_18 rfl rfl ?_
  refine r_getN hX kg_X2_158 (d0 + 5) (mWd_loc hd0) rfl dX2_putDay_19 ?_
  refine r_callV hX (c_X2_putLocal _ _ _ _ d0 hd0 _ _ _) kv_X2_132 0 rfl rfl rfl rfl (Nat.le_of_ble_eq_true rfl) ⟨(Nat.le_of_ble_eq_true rfl), (Nat.le_of_ble_eq_true rfl)⟩ ⟨(Nat.le_of_ble_eq_true rfl), (Nat.le_of_ble_eq_true rfl)⟩ dX2_putDay_22 (fun _ _ z => False.elim z) (fun v9 ws9 h4 => ?_)
  obtain ⟨r6, K7, hK7, rfl, hw9⟩ := h4
  subst ws9
  dsimp only [mPush]
  exact r_iret hX hE dX2_putDay_25 (Nat.le_of_ble_eq_true rfl) (Nat.le_of_ble_eq_true rfl) ⟨_, K7, (hK7.trans rfl), rfl, rfl⟩
theorem dX2_putMonths_0 : decode cX2_putMonths 0 = .ok (.lload_n 2, 1) := by decide +kernel
theorem dX2_putMonths_1 : decode cX2_putMonths 1 = .ok (.ldc2_w 140, 3) := by decide +kernel
theorem dX2_putMonths_4 : decode cX2_putMonths 4 = .ok (.invokestatic 100, 3) := by decide +kernel
theorem dX2_putMonths_7 : decode cX2_putMonths 7 = .ok (.lstore 4, 2) := by decide +kernel
theorem dX2_putMonths_9 : decode cX2_putMonths 9 = .ok (.lload 4, 2) := by decide +kernel
theorem dX2_putMonths_11 : decode cX2_putMonths 11 = .ok (.ldc2_w 116, 3) := by decide +kernel
theorem dX2_putMonths_14 : decode cX2_putMonths 14 = .ok (.ldc2_w 118, 3) := by decide +kernel
theorem dX2_putMonths_17 : decode cX2_putMonths 17 = .ok (.invokestatic 48, 3) := by decide +kernel
theorem dX2_putMonths_20 : decode cX2_putMonths 20 = .ok (.ifCond .ne 8, 3) := by decide +kernel
theorem dX2_putMonths_23 : decode cX2_putMonths 23 = .ok (.aload_n 0, 1) := by decide +kernel
theorem dX2_putMonths_24 : decode cX2_putMonths 24 = .ok (.invokevirtual 56, 3) := by decide +kernel
theorem dX2_putMonths_27 : decode cX2_putMonths 27 = .ok (.ireturn, 1) := by decide +kernel
theorem dX2_putMonths_28 : decode cX2_putMonths 28 = .ok (.lload_n 2, 1) := by decide +kernel
theorem dX2_putMonths_29 : decode cX2_putMonths 29 = .ok (.ldc2_w 140, 3) := by decide +kernel
theorem dX2_putMonths_32 : decode cX2_putMonths 32 = .ok (.invokestatic 277, 3) := by decide +kernel
theorem dX2_putMonths_35 : decode cX2_putMonths 35 = .ok (.l2i, 1) := by decide +kernel
theorem dX2_putMonths_36 : decode cX2_putMonths 36 = .ok (.iconst 1, 1) := by decide +kernel
theorem dX2_putMonths_37 : decode cX2_putMonths 37 = .ok (.iadd, 1) := by decide +kernel
theorem dX2_putMonths_38 : decode cX2_putMonths 38 = .ok (.istore 6, 2) := by decide +kernel
theorem dX2_putMonths_40 : decode cX2_putMonths 40 = .ok (.lload 4, 2) := by decide +kernel
theorem dX2_putMonths_42 : decode cX2_putMonths 42 = .ok (.l2i, 1) := by decide +kernel
theorem dX2_putMonths_43 : decode cX2_putMonths 43 = .ok (.iload 6, 2) := by decide +kernel
theorem dX2_putMonths_45 : decode cX2_putMonths 45 = .ok (.invokestatic 308, 3) := by decide +kernel
theorem dX2_putMonths_48 : decode cX2_putMonths 48 = .ok (.istore 7, 2) := by decide +kernel
theorem dX2_putMonths_50 : decode cX2_putMonths 50 = .ok (.aload_n 1, 1) := by decide +kernel
theorem dX2_putMonths_51 : decode cX2_putMonths 51 = .ok (.invokevirtual 274, 3) := by decide +kernel
theorem dX2_putMonths_54 : decode cX2_putMonths 54 = .ok (.invokestatic 311, 3) := by decide +kernel
theorem dX2_putMonths_57 : decode cX2_putMonths 57 = .ok (.iload 7, 2) := by decide +kernel
theorem dX2_putMonths_59 : decode cX2_putMonths 59 = .ok (.invokestatic 314, 3) := by decide +kernel
theorem dX2_putMonths_62 : decode cX2_putMonths 62 = .ok (.istore 8, 2) := by decide +kernel
theorem dX2_putMonths_64 : decode cX2_putMonths 64 = .ok (.aload_n 0, 1) := by decide +kernel
theorem dX2_putMonths_65 : decode cX2_putMonths 65 = .ok (.aload_n 1, 1) := by decide +kernel
theorem dX2_putMonths_66 : decode cX2_putMonths 66 = .ok (.lload 4, 2) := by decide +kernel
theorem dX2_putMonths_68 : decode cX2_putMonths 68 = .ok (.l2i, 1) := by decide +kernel
theorem dX2_putMonths_69 : decode cX2_putMonths 69 = .ok (.iload 6, 2) := by decide +kernel
theorem dX2_putMonths_71 : decode cX2_putMonths 71 = .ok (.iload 8, 2) := by decide +kernel
theorem dX2_putMonths_73 : decode cX2_putMonths 73 = .ok (.invokestatic 126, 3) := by decide +kernel
theorem dX2_putMonths_76 : decode cX2_putMonths 76 = .ok (.invokevirtual 317, 3) := by decide +kernel
theorem dX2_putMonths_79 : decode cX2_putMonths 79 = .ok (.ireturn, 1) := by decide +kernel
set_option maxHeartbeats 4000000 in
set_option maxRecDepth 20000 in
theorem c_X2_putMonths (ad : Nat → Nat) (cs : ClassId × ClassId × ClassId) (K : mK) (rest : va_W) (d0 : Nat) (hd0 : d0 < 9) (p1 : Int64) : mCt (mTy cs) yX2_putMonths cX2_putMonths 9 (some .int) ⟨4, 0, 0, 92⟩ [.ref (ad 0), .ref (ad (d0 + 5)), .long p1] (mWd ad cs K rest) (mWi ad cs K rest) mNo := by
  refine mCt.of (by decide +kernel) (Nat.le_of_ble_eq_true rfl) (fun X hX hE => ?_)
  have hX : mOK X RX2 cX2_putMonths 9 ⟨4, 0, 0, 92⟩ [] (mTy cs) := hX
  refine r_lload_n hX dX2_putMonths_0 rfl rfl ?_
  refine r_ldc2 hX kc_X2_140 dX2_putMonths_1 ?_
  refine r_callS hX (c_J9_floorDiv_f86c9 _ _ _ _ (by decide)) ks_X2_100 rfl rfl (Nat.le_of_ble_eq_true rfl) ⟨(Nat.le_of_ble_eq_true rfl), (Nat.le_of_ble_eq_true rfl)⟩ ⟨(Nat.le_of_ble_eq_true rfl), (Nat.le_of_ble_eq_true rfl)⟩ dX2_putMonths_4 (fun _ _ z => False.elim z) (fun v9 ws9 h1 => ?_)
  obtain ⟨r3, rfl, hw9⟩ := h1
  subst ws9
  dsimp only [mPush]
  refine r_lstore hX dX2_putMonths_7 (by decide) rfl ?_
  refine r_lload hX dX2_putMonths_9 rfl ?_
  refine r_ldc2 hX kc_X2_116 dX2_putMonths_11 ?_
  refine r_ldc2 hX kc_X2_118 dX2_putMonths_14 ?_
  refine r_callS hX (c_X2_isWithin _ _ _ _ _) ks_X2_48 rfl rfl (Nat.le_of_ble_eq_true rfl) ⟨(Nat.le_of_ble_eq_true rfl), (Nat.le_of_ble_eq_true rfl)⟩ ⟨(Nat.le_of_ble_eq_true rfl), (Nat.le_of_ble_eq_true rfl)⟩ dX2_putMonths_17 (fun _ _ z => False.elim z) (fun v9 ws9 h4 => ?_)
  obtain ⟨rfl, hw9⟩ := h4
  subst ws9
  dsimp only [mPush]
  refine r_if_ne (tgt := 28) hX dX2_putMonths_20 (by decide) (fun c6 => ?_) (fun c6 => ?_)
  · refine r_lload_n hX dX2_putMonths_28 rfl rfl ?_
    refine r_ldc2 hX kc_X2_140 dX2_putMonths_29 ?_
    refine r_callS hX (c_J9_floorMod_f86c9 _ _ _ _ (by decide)) ks_X2_277 rfl rfl (Nat.le_of_ble_eq_true rfl) ⟨(Nat.le_of_ble_eq_true rfl), (Nat.le_of_ble_eq_true rfl)⟩ ⟨(Nat.le_of_ble_eq_true rfl), (Nat.le_of_ble_eq_true rfl)⟩ dX2_putMonths_32 (fun _ _ z => False.elim z) (fun v9 ws9 h7 => ?_)
    obtain ⟨r9, rfl, hw9⟩ := h7
    subst ws9
    dsimp only [mPush]
    refine r_l2i hX dX2_putMonths_35 ?_
    refine r_iconst (v := 1) hX dX2_putMonths_36 (by decide) ?_
    refine r_iadd hX dX2_putMonths_37 ?_
    refine r_istore hX dX2_putMonths_38 (by decide) rfl ?_
    refine r_lload hX dX2_putMonths_40 rfl ?_
    refine r_l2i hX dX2_putMonths_42 ?_
    refine r_iload hX dX2_putMonths_43 rfl ?_
    refine r_callS hX (c_X0_lengthOfMonth _ _ _ _) ks_X2_308 rfl rfl (Nat.le_of_ble_eq_true rfl) ⟨(Nat.le_of_ble_eq_true rfl), (Nat.le_of_ble_eq_true rfl)⟩ ⟨(Nat.le_of_ble_eq_true rfl), (Nat.le_of_ble_eq_true rfl)⟩ dX2_putMonths_45 (fun _ _ z => False.elim z) (fun v9 ws9 h10 => ?_)
    obtain ⟨r12, rfl, hw9⟩ := h10
    subst ws9
    dsimp only [mPush]
    refine r_istore hX dX2_putMonths_48 (by decide) rfl ?_
    refine r_aload_n hX dX2_putMonths_50 rfl rfl ?_
    refine r_callV hX (c_X1_day _ _ (d0 + 5) _ _ _ _ (mWd_loc hd0)) kv_X2_274 (d0 + 5) (mWd_loc hd0) rfl rfl rfl (Nat.le_of_ble_eq_true rfl) ⟨(Nat.le_of_ble_eq_true rfl), (Nat.le_of_ble_eq_true rfl)⟩ ⟨(Nat.le_of_ble_eq_true rfl), (Nat.le_of_ble_eq_true rfl)⟩ dX2_putMonths_51 (fun _ _ z => False.elim z) (fun v9 ws9 h13 => ?_)
    obtain ⟨r15, rfl, hw9⟩ := h13
    subst ws9
    dsimp only [mPush]
    refine r_callS hX (c_X0_dayOfMonth _ _ _) ks_X2_311 rfl rfl (Nat.le_of_ble_eq_true rfl) ⟨(Nat.le_of_ble_eq_true rfl), (Nat.le_of_ble_eq_true rfl)⟩ ⟨(Nat.le_of_ble_eq_true rfl), (Nat.le_of_ble_eq_true rfl)⟩ dX2_putMonths_54 (fun _ _ z => False.elim z) (fun v9 ws9 h16 => ?_)
    obtain ⟨r18, rfl, hw9⟩ := h16
    subst ws9
    dsimp only [mPush]
    refine r_iload hX dX2_putMonths_57 rfl ?_
    refine r_callS hX (c_J9_min_7cf53 _ _ _ _) ks_X2_314 rfl rfl (Nat.le_of_ble_eq_true rfl) ⟨(Nat.le_of_ble_eq_true rfl), (Nat.le_of_ble_eq_true rfl)⟩ ⟨(Nat.le_of_ble_eq_true rfl), (Nat.le_of_ble_eq_true rfl)⟩ dX2_putMonths_59 (fun _ _ z => False.elim z) (fun v9 ws9 h19 => ?_)
    obtain ⟨r21, rfl, hw9⟩ := h19
    subst ws9
    dsimp only [mPush]
    refine r_istore hX dX2_putMonths_62 (by decide) rfl ?_
    refine r_aload_n hX dX2_putMonths_64 rfl rfl ?_
    refine r_aload_n hX dX2_putMonths_65 rfl rfl ?_
    refine r_lload hX dX2_putMonths_66 rfl ?_
    refine r_l2i hX dX2_putMonths_68 ?_
    refine r_iload hX dX2_putMonths_69 rfl ?_
    refine r_iload hX dX2_putMonths_71 rfl ?_
    refine r_callS hX (c_X0_dayOf _ _ _ _ _) ks_X2_126 rfl rfl (Nat.le_of_ble_eq_true rfl) ⟨(Nat.le_of_ble_eq_true rfl), (Nat.le_of_ble_eq_true rfl)⟩ ⟨(Nat.le_of_ble_eq_true rfl), (Nat.le_of_ble_eq_true rfl)⟩ dX2_putMonths_73 (fun _ _ z => False.elim z) (fun v9 ws9 h22 => ?_)
    obtain ⟨r24, rfl, hw9⟩ := h22
    subst ws9
    dsimp only [mPush]
    refine r_callV hX (c_X2_putDay _ _ _ _ d0 hd0 _) kv_X2_317 0 rfl rfl rfl rfl (Nat.le_of_ble_eq_true rfl) ⟨(Nat.le_of_ble_eq_true rfl), (Nat.le_of_ble_eq_true rfl)⟩ ⟨(Nat.le_of_ble_eq_true rfl), (Nat.le_of_ble_eq_true rfl)⟩ dX2_putMonths_76 (fun _ _ z => False.elim z) (fun v9 ws9 h25 => ?_)
    obtain ⟨r27, K28, hK28, rfl, hw9⟩ := h25
    subst ws9
    dsimp only [mPush]
    exact r_iret hX hE dX2_putMonths_79 (Nat.le_of_ble_eq_true rfl) (Nat.le_of_ble_eq_true rfl) ⟨_, K28, (hK28.trans rfl), rfl, rfl⟩
  · refine r_aload_n hX dX2_putMonths_23 rfl rfl ?_
    refine r_callV hX (c_X2_refused _ _ _ _) kv_X2_56 0 rfl rfl rfl rfl (Nat.le_of_ble_eq_true rfl) ⟨(Nat.le_of_ble_eq_true rfl), (Nat.le_of_ble_eq_true rfl)⟩ ⟨(Nat.le_of_ble_eq_true rfl), (Nat.le_of_ble_eq_true rfl)⟩ dX2_putMonths_24 (fun _ _ z => False.elim z) (fun v9 ws9 h29 => ?_)
    obtain ⟨r31, K32, hK32, rfl, hw9⟩ := h29
    subst ws9
    dsimp only [mPush]
    exact r_iret hX hE dX2_putMonths_27 (Nat.le_of_ble_eq_true rfl) (Nat.le_of_ble_eq_true rfl) ⟨_, K32, (hK32.trans rfl), rfl, rfl⟩
theorem dX2_setPart_0 : decode cX2_setPart 0 = .ok (.iload_n 2, 1) := by decide +kernel
theorem dX2_setPart_1 : decode cX2_setPart 1 = .ok (.i2l, 1) := by decide +kernel
theorem dX2_setPart_2 : decode cX2_setPart 2 = .ok (.lconst 0, 1) := by decide +kernel
theorem dX2_setPart_3 : decode cX2_setPart 3 = .ok (.iload_n 3, 1) := by decide +kernel
theorem dX2_setPart_4 : decode cX2_setPart 4 = .ok (.i2l, 1) := by decide +kernel
theorem dX2_setPart_5 : decode cX2_setPart 5 = .ok (.invokestatic 48, 3) := by decide +kernel
theorem dX2_setPart_8 : decode cX2_setPart 8 = .ok (.ifCond .ne 8, 3) := by decide +kernel
theorem dX2_setPart_11 : decode cX2_setPart 11 = .ok (.aload_n 0, 1) := by decide +kernel
theorem dX2_setPart_12 : decode cX2_setPart 12 = .ok (.invokevirtual 56, 3) := by decide +kernel
theorem dX2_setPart_15 : decode cX2_setPart 15 = .ok (.ireturn, 1) := by decide +kernel
theorem dX2_setPart_16 : decode cX2_setPart 16 = .ok (.aload_n 0, 1) := by decide +kernel
theorem dX2_setPart_17 : decode cX2_setPart 17 = .ok (.aload_n 1, 1) := by decide +kernel
theorem dX2_setPart_18 : decode cX2_setPart 18 = .ok (.aload_n 1, 1) := by decide +kernel
theorem dX2_setPart_19 : decode cX2_setPart 19 = .ok (.getfield 146, 3) := by decide +kernel
theorem dX2_setPart_22 : decode cX2_setPart 22 = .ok (.iload_n 2, 1) := by decide +kernel
theorem dX2_setPart_23 : decode cX2_setPart 23 = .ok (.iload 4, 2) := by decide +kernel
theorem dX2_setPart_25 : decode cX2_setPart 25 = .ok (.isub, 1) := by decide +kernel
theorem dX2_setPart_26 : decode cX2_setPart 26 = .ok (.i2l, 1) := by decide +kernel
theorem dX2_setPart_27 : decode cX2_setPart 27 = .ok (.lload 5, 2) := by decide +kernel
theorem dX2_setPart_29 : decode cX2_setPart 29 = .ok (.lmul, 1) := by decide +kernel
theorem dX2_setPart_30 : decode cX2_setPart 30 = .ok (.ladd, 1) := by decide +kernel
theorem dX2_setPart_31 : decode cX2_setPart 31 = .ok (.aload_n 1, 1) := by decide +kernel
theorem dX2_setPart_32 : decode cX2_setPart 32 = .ok (.getfield 172, 3) := by decide +kernel
theorem dX2_setPart_35 : decode cX2_setPart 35 = .ok (.aload_n 1, 1) := by decide +kernel
theorem dX2_setPart_36 : decode cX2_setPart 36 = .ok (.getfield 158, 3) := by decide +kernel
theorem dX2_setPart_39 : decode cX2_setPart 39 = .ok (.invokevirtual 132, 3) := by decide +kernel
theorem dX2_setPart_42 : decode cX2_setPart 42 = .ok (.ireturn, 1) := by decide +kernel
set_option maxHeartbeats 4000000 in
set_option maxRecDepth 20000 in
theorem c_X2_setPart (ad : Nat → Nat) (cs : ClassId × ClassId × ClassId) (K : mK) (rest : va_W) (d0 : Nat) (hd0 : d0 < 9) (p1 : Int32) (p2 : Int32) (p3 : Int32) (p4 : Int64) : mCt (mTy cs) yX2_setPart cX2_setPart 7 (some .int) ⟨3, 0, 0, 70⟩ [.ref (ad 0), .ref (ad (d0 + 5)), .int p1, .int p2, .int p3, .long p4] (mWd ad cs K rest) (mWi ad cs K rest) mNo := by
  refine mCt.of (by decide +kernel) (Nat.le_of_ble_eq_true rfl) (fun X hX hE => ?_)
  have hX : mOK X RX2 cX2_setPart 7 ⟨3, 0, 0, 70⟩ [] (mTy cs) := hX
  refine r_iload_n hX dX2_setPart_0 rfl rfl ?_
  refine r_i2l hX dX2_setPart_1 ?_
  refine r_lconst (v := 0) hX dX2_setPart_2 (by decide) ?_
  refine r_iload_n hX dX2_setPart_3 rfl rfl ?_
  refine r_i2l hX dX2_setPart_4 ?_
  refine r_callS hX (c_X2_isWithin _ _ _ _ _) ks_X2_48 rfl rfl (Nat.le_of_ble_eq_true rfl) ⟨(Nat.le_of_ble_eq_true rfl), (Nat.le_of_ble_eq_true rfl)⟩ ⟨(Nat.le_of_ble_eq_true rfl), (Nat.le_of_ble_eq_true rfl)⟩ dX2_setPart_5 (fun _ _ z => False.elim z) (fun v9 ws9 h1 => ?_)
  obtain ⟨rfl, hw9⟩ := h1
  subst ws9
  dsimp only [mPush]
  refine r_if_ne (tgt := 16) hX dX2_setPart_8 (by decide) (fun c3 => ?_) (fun c3 => ?_)
  · refine r_aload_n hX dX2_setPart_16 rfl rfl ?_
    refine r_aload_n hX dX2_setPart_17 rfl rfl ?_
    refine r_aload_n hX dX2_setPart_18 rfl rfl ?_
    refine r_getN hX kg_X2_146 (d0 + 5) (mWd_loc hd0) rfl dX2_setPart_19 ?_
    refine r_iload_n hX dX2_setPart_22 rfl rfl ?_
    refine r_iload hX dX2_setPart_23 rfl ?_
    refine r_isub hX dX2_setPart_25 ?_
    refine r_i2l hX dX2_setPart_26 ?_
    refine r_lload hX dX2_setPart_27 rfl ?_
    refine r_lmul hX dX2_setPart_29 ?_
    refine r_ladd hX dX2_setPart_30 ?_
    refine r_aload_n hX dX2_setPart_31 rfl rfl ?_
    refine r_getN hX kg_X2_172 (d0 + 5) (mWd_loc hd0) rfl dX2_setPart_32 ?_
    refine r_aload_n hX dX2_setPart_35 rfl rfl ?_
    refine r_getN hX kg_X2_158 (d0 + 5) (mWd_loc hd0) rfl dX2_setPart_36 ?_
    refine r_callV hX (c_X2_putLocal _ _ _ _ d0 hd0 _ _ _) kv_X2_132 0 rfl rfl rfl rfl (Nat.le_of_ble_eq_true rfl) ⟨(Nat.le_of_ble_eq_true rfl), (Nat.le_of_ble_eq_true rfl)⟩ ⟨(Nat.le_of_ble_eq_true rfl), (Nat.le_of_ble_eq_true rfl)⟩ dX2_setPart_39 (fun _ _ z => False.elim z) (fun v9 ws9 h4 => ?_)
    obtain ⟨r6, K7, hK7, rfl, hw9⟩ := h4
    subst ws9
    dsimp only [mPush]
    exact r_iret hX hE dX2_setPart_42 (Nat.le_of_ble_eq_true rfl) (Nat.le_of_ble_eq_true rfl) ⟨_, K7, (hK7.trans rfl), rfl, rfl⟩
  · refine r_aload_n hX dX2_setPart_11 rfl rfl ?_
    refine r_callV hX (c_X2_refused _ _ _ _) kv_X2_56 0 rfl rfl rfl rfl (Nat.le_of_ble_eq_true rfl) ⟨(Nat.le_of_ble_eq_true rfl), (Nat.le_of_ble_eq_true rfl)⟩ ⟨(Nat.le_of_ble_eq_true rfl), (Nat.le_of_ble_eq_true rfl)⟩ dX2_setPart_12 (fun _ _ z => False.elim z) (fun v9 ws9 h8 => ?_)
    obtain ⟨r10, K11, hK11, rfl, hw9⟩ := h8
    subst ws9
    dsimp only [mPush]
    exact r_iret hX hE dX2_setPart_15 (Nat.le_of_ble_eq_true rfl) (Nat.le_of_ble_eq_true rfl) ⟨_, K11, (hK11.trans rfl), rfl, rfl⟩
theorem dX2_setOfDay_0 : decode cX2_setOfDay 0 = .ok (.aload_n 1, 1) := by decide +kernel
theorem dX2_setOfDay_1 : decode cX2_setOfDay 1 = .ok (.invokevirtual 274, 3) := by decide +kernel
theorem dX2_setOfDay_4 : decode cX2_setOfDay 4 = .ok (.invokestatic 323, 3) := by decide +kernel
theorem dX2_setOfDay_7 : decode cX2_setOfDay 7 = .ok (.istore 4, 2) := by decide +kernel
theorem dX2_setOfDay_9 : decode cX2_setOfDay 9 = .ok (.aload_n 1, 1) := by decide +kernel
theorem dX2_setOfDay_10 : decode cX2_setOfDay 10 = .ok (.invokevirtual 274, 3) := by decide +kernel
theorem dX2_setOfDay_13 : decode cX2_setOfDay 13 = .ok (.invokestatic 326, 3) := by decide +kernel
theorem dX2_setOfDay_16 : decode cX2_setOfDay 16 = .ok (.istore 5, 2) := by decide +kernel
theorem dX2_setOfDay_18 : decode cX2_setOfDay 18 = .ok (.iload_n 2, 1) := by decide +kernel
theorem dX2_setOfDay_19 : decode cX2_setOfDay 19 = .ok (.tableswitch 118 0 2 #[25, 43, 80], 25) := by decide +kernel
theorem dX2_setOfDay_44 : decode cX2_setOfDay 44 = .ok (.aload_n 0, 1) := by decide +kernel
theorem dX2_setOfDay_45 : decode cX2_setOfDay 45 = .ok (.aload_n 1, 1) := by decide +kernel
theorem dX2_setOfDay_46 : decode cX2_setOfDay 46 = .ok (.iload_n 3, 1) := by decide +kernel
theorem dX2_setOfDay_47 : decode cX2_setOfDay 47 = .ok (.i2l, 1) := by decide +kernel
theorem dX2_setOfDay_48 : decode cX2_setOfDay 48 = .ok (.ldc2_w 140, 3) := by decide +kernel
theorem dX2_setOfDay_51 : decode cX2_setOfDay 51 = .ok (.lmul, 1) := by decide +kernel
theorem dX2_setOfDay_52 : decode cX2_setOfDay 52 = .ok (.iload 5, 2) := by decide +kernel
theorem dX2_setOfDay_54 : decode cX2_setOfDay 54 = .ok (.i2l, 1) := by decide +kernel
theorem dX2_setOfDay_55 : decode cX2_setOfDay 55 = .ok (.ladd, 1) := by decide +kernel
theorem dX2_setOfDay_56 : decode cX2_setOfDay 56 = .ok (.lconst 1, 1) := by decide +kernel
theorem dX2_setOfDay_57 : decode cX2_setOfDay 57 = .ok (.lsub, 1) := by decide +kernel
theorem dX2_setOfDay_58 : decode cX2_setOfDay 58 = .ok (.invokevirtual 142, 3) := by decide +kernel
theorem dX2_setOfDay_61 : decode cX2_setOfDay 61 = .ok (.ireturn, 1) := by decide +kernel
theorem dX2_setOfDay_62 : decode cX2_setOfDay 62 = .ok (.iload_n 3, 1) := by decide +kernel
theorem dX2_setOfDay_63 : decode cX2_setOfDay 63 = .ok (.i2l, 1) := by decide +kernel
theorem dX2_setOfDay_64 : decode cX2_setOfDay 64 = .ok (.lconst 1, 1) := by decide +kernel
theorem dX2_setOfDay_65 : decode cX2_setOfDay 65 = .ok (.ldc2_w 140, 3) := by decide +kernel
theorem dX2_setOfDay_68 : decode cX2_setOfDay 68 = .ok (.invokestatic 48, 3) := by decide +kernel
theorem dX2_setOfDay_71 : decode cX2_setOfDay 71 = .ok (.ifCond .eq 23, 3) := by decide +kernel
theorem dX2_setOfDay_74 : decode cX2_setOfDay 74 = .ok (.aload_n 0, 1) := by decide +kernel
theorem dX2_setOfDay_75 : decode cX2_setOfDay 75 = .ok (.aload_n 1, 1) := by decide +kernel
theorem dX2_setOfDay_76 : decode cX2_setOfDay 76 = .ok (.iload 4, 2) := by decide +kernel
theorem dX2_setOfDay_78 : decode cX2_setOfDay 78 = .ok (.i2l, 1) := by decide +kernel
theorem dX2_setOfDay_79 : decode cX2_setOfDay 79 = .ok (.ldc2_w 140, 3) := by decide +kernel
theorem dX2_setOfDay_82 : decode cX2_setOfDay 82 = .ok (.lmul, 1) := by decide +kernel
theorem dX2_setOfDay_83 : decode cX2_setOfDay 83 = .ok (.iload_n 3, 1) := by decide +kernel
theorem dX2_setOfDay_84 : decode cX2_setOfDay 84 = .ok (.i2l, 1) := by decide +kernel
theorem dX2_setOfDay_85 : decode cX2_setOfDay 85 = .ok (.ladd, 1) := by decide +kernel
theorem dX2_setOfDay_86 : decode cX2_setOfDay 86 = .ok (.lconst 1, 1) := by decide +kernel
theorem dX2_setOfDay_87 : decode cX2_setOfDay 87 = .ok (.lsub, 1) := by decide +kernel
theorem dX2_setOfDay_88 : decode cX2_setOfDay 88 = .ok (.invokevirtual 142, 3) := by decide +kernel
theorem dX2_setOfDay_91 : decode cX2_setOfDay 91 = .ok (.goto 7, 3) := by decide +kernel
theorem dX2_setOfDay_94 : decode cX2_setOfDay 94 = .ok (.aload_n 0, 1) := by decide +kernel
theorem dX2_setOfDay_95 : decode cX2_setOfDay 95 = .ok (.invokevirtual 56, 3) := by decide +kernel
theorem dX2_setOfDay_98 : decode cX2_setOfDay 98 = .ok (.ireturn, 1) := by decide +kernel
theorem dX2_setOfDay_99 : decode cX2_setOfDay 99 = .ok (.iload_n 3, 1) := by decide +kernel
theorem dX2_setOfDay_100 : decode cX2_setOfDay 100 = .ok (.i2l, 1) := by decide +kernel
theorem dX2_setOfDay_101 : decode cX2_setOfDay 101 = .ok (.lconst 1, 1) := by decide +kernel
theorem dX2_setOfDay_102 : decode cX2_setOfDay 102 = .ok (.iload 4, 2) := by decide +kernel
theorem dX2_setOfDay_104 : decode cX2_setOfDay 104 = .ok (.iload 5, 2) := by decide +kernel
theorem dX2_setOfDay_106 : decode cX2_setOfDay 106 = .ok (.invokestatic 308, 3) := by decide +kernel
theorem dX2_setOfDay_109 : decode cX2_setOfDay 109 = .ok (.i2l, 1) := by decide +kernel
theorem dX2_setOfDay_110 : decode cX2_setOfDay 110 = .ok (.invokestatic 48, 3) := by decide +kernel
theorem dX2_setOfDay_113 : decode cX2_setOfDay 113 = .ok (.ifCond .eq 19, 3) := by decide +kernel
theorem dX2_setOfDay_116 : decode cX2_setOfDay 116 = .ok (.aload_n 0, 1) := by decide +kernel
theorem dX2_setOfDay_117 : decode cX2_setOfDay 117 = .ok (.aload_n 1, 1) := by decide +kernel
theorem dX2_setOfDay_118 : decode cX2_setOfDay 118 = .ok (.iload 4, 2) := by decide +kernel
theorem dX2_setOfDay_120 : decode cX2_setOfDay 120 = .ok (.iload 5, 2) := by decide +kernel
theorem dX2_setOfDay_122 : decode cX2_setOfDay 122 = .ok (.iload_n 3, 1) := by decide +kernel
theorem dX2_setOfDay_123 : decode cX2_setOfDay 123 = .ok (.invokestatic 126, 3) := by decide +kernel
theorem dX2_setOfDay_126 : decode cX2_setOfDay 126 = .ok (.invokevirtual 317, 3) := by decide +kernel
theorem dX2_setOfDay_129 : decode cX2_setOfDay 129 = .ok (.goto 7, 3) := by decide +kernel
theorem dX2_setOfDay_132 : decode cX2_setOfDay 132 = .ok (.aload_n 0, 1) := by decide +kernel
theorem dX2_setOfDay_133 : decode cX2_setOfDay 133 = .ok (.invokevirtual 56, 3) := by decide +kernel
theorem dX2_setOfDay_136 : decode cX2_setOfDay 136 = .ok (.ireturn, 1) := by decide +kernel
theorem dX2_setOfDay_137 : decode cX2_setOfDay 137 = .ok (.iload_n 3, 1) := by decide +kernel
theorem dX2_setOfDay_138 : decode cX2_setOfDay 138 = .ok (.i2l, 1) := by decide +kernel
theorem dX2_setOfDay_139 : decode cX2_setOfDay 139 = .ok (.lconst 1, 1) := by decide +kernel
theorem dX2_setOfDay_140 : decode cX2_setOfDay 140 = .ok (.iload 4, 2) := by decide +kernel
theorem dX2_setOfDay_142 : decode cX2_setOfDay 142 = .ok (.invokestatic 329, 3) := by decide +kernel
theorem dX2_setOfDay_145 : decode cX2_setOfDay 145 = .ok (.i2l, 1) := by decide +kernel
theorem dX2_setOfDay_146 : decode cX2_setOfDay 146 = .ok (.invokestatic 48, 3) := by decide +kernel
theorem dX2_setOfDay_149 : decode cX2_setOfDay 149 = .ok (.ifCond .eq 20, 3) := by decide +kernel
theorem dX2_setOfDay_152 : decode cX2_setOfDay 152 = .ok (.aload_n 0, 1) := by decide +kernel
theorem dX2_setOfDay_153 : decode cX2_setOfDay 153 = .ok (.aload_n 1, 1) := by decide +kernel
theorem dX2_setOfDay_154 : decode cX2_setOfDay 154 = .ok (.iload 4, 2) := by decide +kernel
theorem dX2_setOfDay_156 : decode cX2_setOfDay 156 = .ok (.invokestatic 332, 3) := by decide +kernel
theorem dX2_setOfDay_159 : decode cX2_setOfDay 159 = .ok (.iload_n 3, 1) := by decide +kernel
theorem dX2_setOfDay_160 : decode cX2_setOfDay 160 = .ok (.iadd, 1) := by decide +kernel
theorem dX2_setOfDay_161 : decode cX2_setOfDay 161 = .ok (.iconst 1, 1) := by decide +kernel
theorem dX2_setOfDay_162 : decode cX2_setOfDay 162 = .ok (.isub, 1) := by decide +kernel
theorem dX2_setOfDay_163 : decode cX2_setOfDay 163 = .ok (.invokevirtual 317, 3) := by decide +kernel
theorem dX2_setOfDay_166 : decode cX2_setOfDay 166 = .ok (.goto 7, 3) := by decide +kernel
theorem dX2_setOfDay_169 : decode cX2_setOfDay 169 = .ok (.aload_n 0, 1) := by decide +kernel
theorem dX2_setOfDay_170 : decode cX2_setOfDay 170 = .ok (.invokevirtual 56, 3) := by decide +kernel
theorem dX2_setOfDay_173 : decode cX2_setOfDay 173 = .ok (.ireturn, 1) := by decide +kernel
set_option maxHeartbeats 4000000 in
set_option maxRecDepth 20000 in
theorem c_X2_setOfDay (ad : Nat → Nat) (cs : ClassId × ClassId × ClassId) (K : mK) (rest : va_W) (d0 : Nat) (hd0 : d0 < 9) (p1 : Int32) (p2 : Int32) : mCt (mTy cs) yX2_setOfDay cX2_setOfDay 6 (some .int) ⟨5, 0, 0, 120⟩ [.ref (ad 0), .ref (ad (d0 + 5)), .int p1, .int p2] (mWd ad cs K rest) (mWi ad cs K rest) mNo := by
  refine mCt.of (by decide +kernel) (Nat.le_of_ble_eq_true rfl) (fun X hX hE => ?_)
  have hX : mOK X RX2 cX2_setOfDay 6 ⟨5, 0, 0, 120⟩ [] (mTy cs) := hX
  refine r_aload_n hX dX2_setOfDay_0 rfl rfl ?_
  refine r_callV hX (c_X1_day _ _ (d0 + 5) _ _ _ _ (mWd_loc hd0)) kv_X2_274 (d0 + 5) (mWd_loc hd0) rfl rfl rfl (Nat.le_of_ble_eq_true rfl) ⟨(Nat.le_of_ble_eq_true rfl), (Nat.le_of_ble_eq_true rfl)⟩ ⟨(Nat.le_of_ble_eq_true rfl), (Nat.le_of_ble_eq_true rfl)⟩ dX2_setOfDay_1 (fun _ _ z => False.elim z) (fun v9 ws9 h1 => ?_)
  obtain ⟨r3, rfl, hw9⟩ := h1
  subst ws9
  dsimp only [mPush]
  refine r_callS hX (c_X0_yearOf _ _ _) ks_X2_323 rfl rfl (Nat.le_of_ble_eq_true rfl) ⟨(Nat.le_of_ble_eq_true rfl), (Nat.le_of_ble_eq_true rfl)⟩ ⟨(Nat.le_of_ble_eq_true rfl), (Nat.le_of_ble_eq_true rfl)⟩ dX2_setOfDay_4 (fun _ _ z => False.elim z) (fun v9 ws9 h4 => ?_)
  obtain ⟨r6, rfl, hw9⟩ := h4
  subst ws9
  dsimp only [mPush]
  refine r_istore hX dX2_setOfDay_7 (by decide) rfl ?_
  refine r_aload_n hX dX2_setOfDay_9 rfl rfl ?_
  refine r_callV hX (c_X1_day _ _ (d0 + 5) _ _ _ _ (mWd_loc hd0)) kv_X2_274 (d0 + 5) (mWd_loc hd0) rfl rfl rfl (Nat.le_of_ble_eq_true rfl) ⟨(Nat.le_of_ble_eq_true rfl), (Nat.le_of_ble_eq_true rfl)⟩ ⟨(Nat.le_of_ble_eq_true rfl), (Nat.le_of_ble_eq_true rfl)⟩ dX2_setOfDay_10 (fun _ _ z => False.elim z) (fun v9 ws9 h7 => ?_)
  obtain ⟨r9, rfl, hw9⟩ := h7
  subst ws9
  dsimp only [mPush]
  refine r_callS hX (c_X0_monthOf _ _ _) ks_X2_326 rfl rfl (Nat.le_of_ble_eq_true rfl) ⟨(Nat.le_of_ble_eq_true rfl), (Nat.le_of_ble_eq_true rfl)⟩ ⟨(Nat.le_of_ble_eq_true rfl), (Nat.le_of_ble_eq_true rfl)⟩ dX2_setOfDay_13 (fun _ _ z => False.elim z) (fun v9 ws9 h10 => ?_)
  obtain ⟨r12, rfl, hw9⟩ := h10
  subst ws9
  dsimp only [mPush]
  refine r_istore hX dX2_setOfDay_16 (by decide) rfl ?_
  refine r_iload_n hX dX2_setOfDay_18 rfl rfl ?_
  by_cases s13 : p1.toInt = 0
  · refine r_tableIn (off := 25) (tgt := 44) hX dX2_setOfDay_19 (by omega) (by omega) (by rw [s13]; rfl) (by decide) ?_
    refine r_aload_n hX dX2_setOfDay_44 rfl rfl ?_
    refine r_aload_n hX dX2_setOfDay_45 rfl rfl ?_
    refine r_iload_n hX dX2_setOfDay_46 rfl rfl ?_
    refine r_i2l hX dX2_setOfDay_47 ?_
    refine r_ldc2 hX kc_X2_140 dX2_setOfDay_48 ?_
    refine r_lmul hX dX2_setOfDay_51 ?_
    refine r_iload hX dX2_setOfDay_52 rfl ?_
    refine r_i2l hX dX2_setOfDay_54 ?_
    refine r_ladd hX dX2_setOfDay_55 ?_
    refine r_lconst (v := 1) hX dX2_setOfDay_56 (by decide) ?_
    refine r_lsub hX dX2_setOfDay_57 ?_
    refine r_callV hX (c_X2_putMonths _ _ _ _ d0 hd0 _) kv_X2_142 0 rfl rfl rfl rfl (Nat.le_of_ble_eq_true rfl) ⟨(Nat.le_of_ble_eq_true rfl), (Nat.le_of_ble_eq_true rfl)⟩ ⟨(Nat.le_of_ble_eq_true rfl), (Nat.le_of_ble_eq_true rfl)⟩ dX2_setOfDay_58 (fun _ _ z => False.elim z) (fun v9 ws9 h14 => ?_)
    obtain ⟨r16, K17, hK17, rfl, hw9⟩ := h14
    subst ws9
    dsimp only [mPush]
    exact r_iret hX hE dX2_setOfDay_61 (Nat.le_of_ble_eq_true rfl) (Nat.le_of_ble_eq_true rfl) ⟨_, K17, (hK17.trans rfl), rfl, rfl⟩
  by_cases s18 : p1.toInt = 1
  · refine r_tableIn (off := 43) (tgt := 62) hX dX2_setOfDay_19 (by omega) (by omega) (by rw [s18]; rfl) (by decide) ?_
    refine r_iload_n hX dX2_setOfDay_62 rfl rfl ?_
    refine r_i2l hX dX2_setOfDay_63 ?_
    refine r_lconst (v := 1) hX dX2_setOfDay_64 (by decide) ?_
    refine r_ldc2 hX kc_X2_140 dX2_setOfDay_65 ?_
    refine r_callS hX (c_X2_isWithin _ _ _ _ _) ks_X2_48 rfl rfl (Nat.le_of_ble_eq_true rfl) ⟨(Nat.le_of_ble_eq_true rfl), (Nat.le_of_ble_eq_true rfl)⟩ ⟨(Nat.le_of_ble_eq_true rfl), (Nat.le_of_ble_eq_true rfl)⟩ dX2_setOfDay_68 (fun _ _ z => False.elim z) (fun v9 ws9 h19 => ?_)
    obtain ⟨rfl, hw9⟩ := h19
    subst ws9
    dsimp only [mPush]
    refine r_if_eq (tgt := 94) hX dX2_setOfDay_71 (by decide) (fun c21 => ?_) (fun c21 => ?_)
    · refine r_aload_n hX dX2_setOfDay_94 rfl rfl ?_
      refine r_callV hX (c_X2_refused _ _ _ _) kv_X2_56 0 rfl rfl rfl rfl (Nat.le_of_ble_eq_true rfl) ⟨(Nat.le_of_ble_eq_true rfl), (Nat.le_of_ble_eq_true rfl)⟩ ⟨(Nat.le_of_ble_eq_true rfl), (Nat.le_of_ble_eq_true rfl)⟩ dX2_setOfDay_95 (fun _ _ z => False.elim z) (fun v9 ws9 h22 => ?_)
      obtain ⟨r24, K25, hK25, rfl, hw9⟩ := h22
      subst ws9
      dsimp only [mPush]
      exact r_iret hX hE dX2_setOfDay_98 (Nat.le_of_ble_eq_true rfl) (Nat.le_of_ble_eq_true rfl) ⟨_, K25, (hK25.trans rfl), rfl, rfl⟩
    · refine r_aload_n hX dX2_setOfDay_74 rfl rfl ?_
      refine r_aload_n hX dX2_setOfDay_75 rfl rfl ?_
      refine r_iload hX dX2_setOfDay_76 rfl ?_
      refine r_i2l hX dX2_setOfDay_78 ?_
      refine r_ldc2 hX kc_X2_140 dX2_setOfDay_79 ?_
      refine r_lmul hX dX2_setOfDay_82 ?_
      refine r_iload_n hX dX2_setOfDay_83 rfl rfl ?_
      refine r_i2l hX dX2_setOfDay_84 ?_
      refine r_ladd hX dX2_setOfDay_85 ?_
      refine r_lconst (v := 1) hX dX2_setOfDay_86 (by decide) ?_
      refine r_lsub hX dX2_setOfDay_87 ?_
      refine r_callV hX (c_X2_putMonths _ _ _ _ d0 hd0 _) kv_X2_142 0 rfl rfl rfl rfl (Nat.le_of_ble_eq_true rfl) ⟨(Nat.le_of_ble_eq_true rfl), (Nat.le_of_ble_eq_true rfl)⟩ ⟨(Nat.le_of_ble_eq_true rfl), (Nat.le_of_ble_eq_true rfl)⟩ dX2_setOfDay_88 (fun _ _ z => False.elim z) (fun v9 ws9 h26 => ?_)
      obtain ⟨r28, K29, hK29, rfl, hw9⟩ := h26
      subst ws9
      dsimp only [mPush]
      refine r_goto (tgt := 98) hX dX2_setOfDay_91 (by decide) ?_
      exact r_iret hX hE dX2_setOfDay_98 (Nat.le_of_ble_eq_true rfl) (Nat.le_of_ble_eq_true rfl) ⟨_, K29, (hK29.trans rfl), rfl, rfl⟩
  by_cases s30 : p1.toInt = 2
  · refine r_tableIn (off := 80) (tgt := 99) hX dX2_setOfDay_19 (by omega) (by omega) (by rw [s30]; rfl) (by decide) ?_
    refine r_iload_n hX dX2_setOfDay_99 rfl rfl ?_
    refine r_i2l hX dX2_setOfDay_100 ?_
    refine r_lconst (v := 1) hX dX2_setOfDay_101 (by decide) ?_
    refine r_iload hX dX2_setOfDay_102 rfl ?_
    refine r_iload hX dX2_setOfDay_104 rfl ?_
    refine r_callS hX (c_X0_lengthOfMonth _ _ _ _) ks_X2_308 rfl rfl (Nat.le_of_ble_eq_true rfl) ⟨(Nat.le_of_ble_eq_true rfl), (Nat.le_of_ble_eq_true rfl)⟩ ⟨(Nat.le_of_ble_eq_true rfl), (Nat.le_of_ble_eq_true rfl)⟩ dX2_setOfDay_106 (fun _ _ z => False.elim z) (fun v9 ws9 h31 => ?_)
    obtain ⟨r33, rfl, hw9⟩ := h31
    subst ws9
    dsimp only [mPush]
    refine r_i2l hX dX2_setOfDay_109 ?_
    refine r_callS hX (c_X2_isWithin _ _ _ _ _) ks_X2_48 rfl rfl (Nat.le_of_ble_eq_true rfl) ⟨(Nat.le_of_ble_eq_true rfl), (Nat.le_of_ble_eq_true rfl)⟩ ⟨(Nat.le_of_ble_eq_true rfl), (Nat.le_of_ble_eq_true rfl)⟩ dX2_setOfDay_110 (fun _ _ z => False.elim z) (fun v9 ws9 h34 => ?_)
    obtain ⟨rfl, hw9⟩ := h34
    subst ws9
    dsimp only [mPush]
    refine r_if_eq (tgt := 132) hX dX2_setOfDay_113 (by decide) (fun c36 => ?_) (fun c36 => ?_)
    · refine r_aload_n hX dX2_setOfDay_132 rfl rfl ?_
      refine r_callV hX (c_X2_refused _ _ _ _) kv_X2_56 0 rfl rfl rfl rfl (Nat.le_of_ble_eq_true rfl) ⟨(Nat.le_of_ble_eq_true rfl), (Nat.le_of_ble_eq_true rfl)⟩ ⟨(Nat.le_of_ble_eq_true rfl), (Nat.le_of_ble_eq_true rfl)⟩ dX2_setOfDay_133 (fun _ _ z => False.elim z) (fun v9 ws9 h37 => ?_)
      obtain ⟨r39, K40, hK40, rfl, hw9⟩ := h37
      subst ws9
      dsimp only [mPush]
      exact r_iret hX hE dX2_setOfDay_136 (Nat.le_of_ble_eq_true rfl) (Nat.le_of_ble_eq_true rfl) ⟨_, K40, (hK40.trans rfl), rfl, rfl⟩
    · refine r_aload_n hX dX2_setOfDay_116 rfl rfl ?_
      refine r_aload_n hX dX2_setOfDay_117 rfl rfl ?_
      refine r_iload hX dX2_setOfDay_118 rfl ?_
      refine r_iload hX dX2_setOfDay_120 rfl ?_
      refine r_iload_n hX dX2_setOfDay_122 rfl rfl ?_
      refine r_callS hX (c_X0_dayOf _ _ _ _ _) ks_X2_126 rfl rfl (Nat.le_of_ble_eq_true rfl) ⟨(Nat.le_of_ble_eq_true rfl), (Nat.le_of_ble_eq_true rfl)⟩ ⟨(Nat.le_of_ble_eq_true rfl), (Nat.le_of_ble_eq_true rfl)⟩ dX2_setOfDay_123 (fun _ _ z => False.elim z) (fun v9 ws9 h41 => ?_)
      obtain ⟨r43, rfl, hw9⟩ := h41
      subst ws9
      dsimp only [mPush]
      refine r_callV hX (c_X2_putDay _ _ _ _ d0 hd0 _) kv_X2_317 0 rfl rfl rfl rfl (Nat.le_of_ble_eq_true rfl) ⟨(Nat.le_of_ble_eq_true rfl), (Nat.le_of_ble_eq_true rfl)⟩ ⟨(Nat.le_of_ble_eq_true rfl), (Nat.le_of_ble_eq_true rfl)⟩ dX2_setOfDay_126 (fun _ _ z => False.elim z) (fun v9 ws9 h44 => ?_)
      obtain ⟨r46, K47, hK47, rfl, hw9⟩ := h44
      subst ws9
      dsimp only [mPush]
      refine r_goto (tgt := 136) hX dX2_setOfDay_129 (by decide) ?_
      exact r_iret hX hE dX2_setOfDay_136 (Nat.le_of_ble_eq_true rfl) (Nat.le_of_ble_eq_true rfl) ⟨_, K47, (hK47.trans rfl), rfl, rfl⟩
  refine r_tableOut (tgt := 137) hX dX2_setOfDay_19 (by omega) (by decide) ?_
  refine r_iload_n hX dX2_setOfDay_137 rfl rfl ?_
  refine r_i2l hX dX2_setOfDay_138 ?_
  refine r_lconst (v := 1) hX dX2_setOfDay_139 (by decide) ?_
  refine r_iload hX dX2_setOfDay_140 rfl ?_
  refine r_callS hX (c_X0_lengthOfYear _ _ _) ks_X2_329 rfl rfl (Nat.le_of_ble_eq_true rfl) ⟨(Nat.le_of_ble_eq_true rfl), (Nat.le_of_ble_eq_true rfl)⟩ ⟨(Nat.le_of_ble_eq_true rfl), (Nat.le_of_ble_eq_true rfl)⟩ dX2_setOfDay_142 (fun _ _ z => False.elim z) (fun v9 ws9 h48 => ?_)
  obtain ⟨r50, rfl, hw9⟩ := h48
  subst ws9
  dsimp only [mPush]
  refine r_i2l hX dX2_setOfDay_145 ?_
  refine r_callS hX (c_X2_isWithin _ _ _ _ _) ks_X2_48 rfl rfl (Nat.le_of_ble_eq_true rfl) ⟨(Nat.le_of_ble_eq_true rfl), (Nat.le_of_ble_eq_true rfl)⟩ ⟨(Nat.le_of_ble_eq_true rfl), (Nat.le_of_ble_eq_true rfl)⟩ dX2_setOfDay_146 (fun _ _ z => False.elim z) (fun v9 ws9 h51 => ?_)
  obtain ⟨rfl, hw9⟩ := h51
  subst ws9
  dsimp only [mPush]
  refine r_if_eq (tgt := 169) hX dX2_setOfDay_149 (by decide) (fun c53 => ?_) (fun c53 => ?_)
  · refine r_aload_n hX dX2_setOfDay_169 rfl rfl ?_
    refine r_callV hX (c_X2_refused _ _ _ _) kv_X2_56 0 rfl rfl rfl rfl (Nat.le_of_ble_eq_true rfl) ⟨(Nat.le_of_ble_eq_true rfl), (Nat.le_of_ble_eq_true rfl)⟩ ⟨(Nat.le_of_ble_eq_true rfl), (Nat.le_of_ble_eq_true rfl)⟩ dX2_setOfDay_170 (fun _ _ z => False.elim z) (fun v9 ws9 h54 => ?_)
    obtain ⟨r56, K57, hK57, rfl, hw9⟩ := h54
    subst ws9
    dsimp only [mPush]
    exact r_iret hX hE dX2_setOfDay_173 (Nat.le_of_ble_eq_true rfl) (Nat.le_of_ble_eq_true rfl) ⟨_, K57, (hK57.trans rfl), rfl, rfl⟩
  · refine r_aload_n hX dX2_setOfDay_152 rfl rfl ?_
    refine r_aload_n hX dX2_setOfDay_153 rfl rfl ?_
    refine r_iload hX dX2_setOfDay_154 rfl ?_
    refine r_callS hX (c_X0_firstDayOf _ _ _) ks_X2_332 rfl rfl (Nat.le_of_ble_eq_true rfl) ⟨(Nat.le_of_ble_eq_true rfl), (Nat.le_of_ble_eq_true rfl)⟩ ⟨(Nat.le_of_ble_eq_true rfl), (Nat.le_of_ble_eq_true rfl)⟩ dX2_setOfDay_156 (fun _ _ z => False.elim z) (fun v9 ws9 h58 => ?_)
    obtain ⟨r60, rfl, hw9⟩ := h58
    subst ws9
    dsimp only [mPush]
    refine r_iload_n hX dX2_setOfDay_159 rfl rfl ?_
    refine r_iadd hX dX2_setOfDay_160 ?_
    refine r_iconst (v := 1) hX dX2_setOfDay_161 (by decide) ?_
    refine r_isub hX dX2_setOfDay_162 ?_
    refine r_callV hX (c_X2_putDay _ _ _ _ d0 hd0 _) kv_X2_317 0 rfl rfl rfl rfl (Nat.le_of_ble_eq_true rfl) ⟨(Nat.le_of_ble_eq_true rfl), (Nat.le_of_ble_eq_true rfl)⟩ ⟨(Nat.le_of_ble_eq_true rfl), (Nat.le_of_ble_eq_true rfl)⟩ dX2_setOfDay_163 (fun _ _ z => False.elim z) (fun v9 ws9 h61 => ?_)
    obtain ⟨r63, K64, hK64, rfl, hw9⟩ := h61
    subst ws9
    dsimp only [mPush]
    refine r_goto (tgt := 173) hX dX2_setOfDay_166 (by decide) ?_
    exact r_iret hX hE dX2_setOfDay_173 (Nat.le_of_ble_eq_true rfl) (Nat.le_of_ble_eq_true rfl) ⟨_, K64, (hK64.trans rfl), rfl, rfl⟩
theorem dX2_setOfTime_0 : decode cX2_setOfTime 0 = .ok (.iload_n 2, 1) := by decide +kernel
theorem dX2_setOfTime_1 : decode cX2_setOfTime 1 = .ok (.tableswitch 73 4 6 #[27, 43, 59], 27) := by decide +kernel
theorem dX2_setOfTime_28 : decode cX2_setOfTime 28 = .ok (.aload_n 0, 1) := by decide +kernel
theorem dX2_setOfTime_29 : decode cX2_setOfTime 29 = .ok (.aload_n 1, 1) := by decide +kernel
theorem dX2_setOfTime_30 : decode cX2_setOfTime 30 = .ok (.iload_n 3, 1) := by decide +kernel
theorem dX2_setOfTime_31 : decode cX2_setOfTime 31 = .ok (.bipush 23, 2) := by decide +kernel
theorem dX2_setOfTime_33 : decode cX2_setOfTime 33 = .ok (.aload_n 1, 1) := by decide +kernel
theorem dX2_setOfTime_34 : decode cX2_setOfTime 34 = .ok (.invokevirtual 335, 3) := by decide +kernel
theorem dX2_setOfTime_37 : decode cX2_setOfTime 37 = .ok (.ldc2_w 304, 3) := by decide +kernel
theorem dX2_setOfTime_40 : decode cX2_setOfTime 40 = .ok (.invokevirtual 338, 3) := by decide +kernel
theorem dX2_setOfTime_43 : decode cX2_setOfTime 43 = .ok (.ireturn, 1) := by decide +kernel
theorem dX2_setOfTime_44 : decode cX2_setOfTime 44 = .ok (.aload_n 0, 1) := by decide +kernel
theorem dX2_setOfTime_45 : decode cX2_setOfTime 45 = .ok (.aload_n 1, 1) := by decide +kernel
theorem dX2_setOfTime_46 : decode cX2_setOfTime 46 = .ok (.iload_n 3, 1) := by decide +kernel
theorem dX2_setOfTime_47 : decode cX2_setOfTime 47 = .ok (.bipush 59, 2) := by decide +kernel
theorem dX2_setOfTime_49 : decode cX2_setOfTime 49 = .ok (.aload_n 1, 1) := by decide +kernel
theorem dX2_setOfTime_50 : decode cX2_setOfTime 50 = .ok (.invokevirtual 342, 3) := by decide +kernel
theorem dX2_setOfTime_53 : decode cX2_setOfTime 53 = .ok (.ldc2_w 306, 3) := by decide +kernel
theorem dX2_setOfTime_56 : decode cX2_setOfTime 56 = .ok (.invokevirtual 338, 3) := by decide +kernel
theorem dX2_setOfTime_59 : decode cX2_setOfTime 59 = .ok (.ireturn, 1) := by decide +kernel
theorem dX2_setOfTime_60 : decode cX2_setOfTime 60 = .ok (.aload_n 0, 1) := by decide +kernel
theorem dX2_setOfTime_61 : decode cX2_setOfTime 61 = .ok (.aload_n 1, 1) := by decide +kernel
theorem dX2_setOfTime_62 : decode cX2_setOfTime 62 = .ok (.iload_n 3, 1) := by decide +kernel
theorem dX2_setOfTime_63 : decode cX2_setOfTime 63 = .ok (.bipush 59, 2) := by decide +kernel
theorem dX2_setOfTime_65 : decode cX2_setOfTime 65 = .ok (.aload_n 1, 1) := by decide +kernel
theorem dX2_setOfTime_66 : decode cX2_setOfTime 66 = .ok (.invokevirtual 345, 3) := by decide +kernel
theorem dX2_setOfTime_69 : decode cX2_setOfTime 69 = .ok (.lconst 1, 1) := by decide +kernel
theorem dX2_setOfTime_70 : decode cX2_setOfTime 70 = .ok (.invokevirtual 338, 3) := by decide +kernel
theorem dX2_setOfTime_73 : decode cX2_setOfTime 73 = .ok (.ireturn, 1) := by decide +kernel
theorem dX2_setOfTime_74 : decode cX2_setOfTime 74 = .ok (.iload_n 3, 1) := by decide +kernel
theorem dX2_setOfTime_75 : decode cX2_setOfTime 75 = .ok (.i2l, 1) := by decide +kernel
theorem dX2_setOfTime_76 : decode cX2_setOfTime 76 = .ok (.lconst 0, 1) := by decide +kernel
theorem dX2_setOfTime_77 : decode cX2_setOfTime 77 = .ok (.ldc2_w 348, 3) := by decide +kernel
theorem dX2_setOfTime_80 : decode cX2_setOfTime 80 = .ok (.invokestatic 48, 3) := by decide +kernel
theorem dX2_setOfTime_83 : decode cX2_setOfTime 83 = .ok (.ifCond .eq 20, 3) := by decide +kernel
theorem dX2_setOfTime_86 : decode cX2_setOfTime 86 = .ok (.aload_n 0, 1) := by decide +kernel
theorem dX2_setOfTime_87 : decode cX2_setOfTime 87 = .ok (.aload_n 1, 1) := by decide +kernel
theorem dX2_setOfTime_88 : decode cX2_setOfTime 88 = .ok (.aload_n 1, 1) := by decide +kernel
theorem dX2_setOfTime_89 : decode cX2_setOfTime 89 = .ok (.getfield 146, 3) := by decide +kernel
theorem dX2_setOfTime_92 : decode cX2_setOfTime 92 = .ok (.iload_n 3, 1) := by decide +kernel
theorem dX2_setOfTime_93 : decode cX2_setOfTime 93 = .ok (.aload_n 1, 1) := by decide +kernel
theorem dX2_setOfTime_94 : decode cX2_setOfTime 94 = .ok (.getfield 158, 3) := by decide +kernel
theorem dX2_setOfTime_97 : decode cX2_setOfTime 97 = .ok (.invokevirtual 132, 3) := by decide +kernel
theorem dX2_setOfTime_100 : decode cX2_setOfTime 100 = .ok (.goto 7, 3) := by decide +kernel
theorem dX2_setOfTime_103 : decode cX2_setOfTime 103 = .ok (.aload_n 0, 1) := by decide +kernel
theorem dX2_setOfTime_104 : decode cX2_setOfTime 104 = .ok (.invokevirtual 56, 3) := by decide +kernel
theorem dX2_setOfTime_107 : decode cX2_setOfTime 107 = .ok (.ireturn, 1) := by decide +kernel
set_option maxHeartbeats 4000000 in
set_option maxRecDepth 20000 in
theorem c_X2_setOfTime (ad : Nat → Nat) (cs : ClassId × ClassId × ClassId) (K : mK) (rest : va_W) (d0 : Nat) (hd0 : d0 < 9) (p1 : Int32) (p2 : Int32) : mCt (mTy cs) yX2_setOfTime cX2_setOfTime 4 (some .int) ⟨4, 0, 0, 96⟩ [.ref (ad 0), .ref (ad (d0 + 5)), .int p1, .int p2] (mWd ad cs K rest) (mWi ad cs K rest) mNo := by
  refine mCt.of (by decide +kernel) (Nat.le_of_ble_eq_true rfl) (fun X hX hE => ?_)
  have hX : mOK X RX2 cX2_setOfTime 4 ⟨4, 0, 0, 96⟩ [] (mTy cs) := hX
  refine r_iload_n hX dX2_setOfTime_0 rfl rfl ?_
  by_cases s1 : p1.toInt = 4
  · refine r_tableIn (off := 27) (tgt := 28) hX dX2_setOfTime_1 (by omega) (by omega) (by rw [s1]; rfl) (by decide) ?_
    refine r_aload_n hX dX2_setOfTime_28 rfl rfl ?_
    refine r_aload_n hX dX2_setOfTime_29 rfl rfl ?_
    refine r_iload_n hX dX2_setOfTime_30 rfl rfl ?_
    refine r_bipush (v := 23) hX dX2_setOfTime_31 (by decide) ?_
    refine r_aload_n hX dX2_setOfTime_33 rfl rfl ?_
    refine r_callV hX (c_X1_hour _ _ (d0 + 5) _ _ _ _ (mWd_loc hd0)) kv_X2_335 (d0 + 5) (mWd_loc hd0) rfl rfl rfl (Nat.le_of_ble_eq_true rfl) ⟨(Nat.le_of_ble_eq_true rfl), (Nat.le_of_ble_eq_true rfl)⟩ ⟨(Nat.le_of_ble_eq_true rfl), (Nat.le_of_ble_eq_true rfl)⟩ dX2_setOfTime_34 (fun _ _ z => False.elim z) (fun v9 ws9 h2 => ?_)
    obtain ⟨r4, rfl, hw9⟩ := h2
    subst ws9
    dsimp only [mPush]
    refine r_ldc2 hX kc_X2_304 dX2_setOfTime_37 ?_
    refine r_callV hX (c_X2_setPart _ _ _ _ d0 hd0 _ _ _ _) kv_X2_338 0 rfl rfl rfl rfl (Nat.le_of_ble_eq_true rfl) ⟨(Nat.le_of_ble_eq_true rfl), (Nat.le_of_ble_eq_true rfl)⟩ ⟨(Nat.le_of_ble_eq_true rfl), (Nat.le_of_ble_eq_true rfl)⟩ dX2_setOfTime_40 (fun _ _ z => False.elim z) (fun v9 ws9 h5 => ?_)
    obtain ⟨r7, K8, hK8, rfl, hw9⟩ := h5
    subst ws9
    dsimp only [mPush]
    exact r_iret hX hE dX2_setOfTime_43 (Nat.le_of_ble_eq_true rfl) (Nat.le_of_ble_eq_true rfl) ⟨_, K8, (hK8.trans rfl), rfl, rfl⟩
  by_cases s9 : p1.toInt = 5
  · refine r_tableIn (off := 43) (tgt := 44) hX dX2_setOfTime_1 (by omega) (by omega) (by rw [s9]; rfl) (by decide) ?_
    refine r_aload_n hX dX2_setOfTime_44 rfl rfl ?_
    refine r_aload_n hX dX2_setOfTime_45 rfl rfl ?_
    refine r_iload_n hX dX2_setOfTime_46 rfl rfl ?_
    refine r_bipush (v := 59) hX dX2_setOfTime_47 (by decide) ?_
    refine r_aload_n hX dX2_setOfTime_49 rfl rfl ?_
    refine r_callV hX (c_X1_minute _ _ (d0 + 5) _ _ _ _ (mWd_loc hd0)) kv_X2_342 (d0 + 5) (mWd_loc hd0) rfl rfl rfl (Nat.le_of_ble_eq_true rfl) ⟨(Nat.le_of_ble_eq_true rfl), (Nat.le_of_ble_eq_true rfl)⟩ ⟨(Nat.le_of_ble_eq_true rfl), (Nat.le_of_ble_eq_true rfl)⟩ dX2_setOfTime_50 (fun _ _ z => False.elim z) (fun v9 ws9 h10 => ?_)
    obtain ⟨r12, rfl, hw9⟩ := h10
    subst ws9
    dsimp only [mPush]
    refine r_ldc2 hX kc_X2_306 dX2_setOfTime_53 ?_
    refine r_callV hX (c_X2_setPart _ _ _ _ d0 hd0 _ _ _ _) kv_X2_338 0 rfl rfl rfl rfl (Nat.le_of_ble_eq_true rfl) ⟨(Nat.le_of_ble_eq_true rfl), (Nat.le_of_ble_eq_true rfl)⟩ ⟨(Nat.le_of_ble_eq_true rfl), (Nat.le_of_ble_eq_true rfl)⟩ dX2_setOfTime_56 (fun _ _ z => False.elim z) (fun v9 ws9 h13 => ?_)
    obtain ⟨r15, K16, hK16, rfl, hw9⟩ := h13
    subst ws9
    dsimp only [mPush]
    exact r_iret hX hE dX2_setOfTime_59 (Nat.le_of_ble_eq_true rfl) (Nat.le_of_ble_eq_true rfl) ⟨_, K16, (hK16.trans rfl), rfl, rfl⟩
  by_cases s17 : p1.toInt = 6
  · refine r_tableIn (off := 59) (tgt := 60) hX dX2_setOfTime_1 (by omega) (by omega) (by rw [s17]; rfl) (by decide) ?_
    refine r_aload_n hX dX2_setOfTime_60 rfl rfl ?_
    refine r_aload_n hX dX2_setOfTime_61 rfl rfl ?_
    refine r_iload_n hX dX2_setOfTime_62 rfl rfl ?_
    refine r_bipush (v := 59) hX dX2_setOfTime_63 (by decide) ?_
    refine r_aload_n hX dX2_setOfTime_65 rfl rfl ?_
    refine r_callV hX (c_X1_secondOfMinute _ _ (d0 + 5) _ _ _ _ (mWd_loc hd0)) kv_X2_345 (d0 + 5) (mWd_loc hd0) rfl rfl rfl (Nat.le_of_ble_eq_true rfl) ⟨(Nat.le_of_ble_eq_true rfl), (Nat.le_of_ble_eq_true rfl)⟩ ⟨(Nat.le_of_ble_eq_true rfl), (Nat.le_of_ble_eq_true rfl)⟩ dX2_setOfTime_66 (fun _ _ z => False.elim z) (fun v9 ws9 h18 => ?_)
    obtain ⟨r20, rfl, hw9⟩ := h18
    subst ws9
    dsimp only [mPush]
    refine r_lconst (v := 1) hX dX2_setOfTime_69 (by decide) ?_
    refine r_callV hX (c_X2_setPart _ _ _ _ d0 hd0 _ _ _ _) kv_X2_338 0 rfl rfl rfl rfl (Nat.le_of_ble_eq_true rfl) ⟨(Nat.le_of_ble_eq_true rfl), (Nat.le_of_ble_eq_true rfl)⟩ ⟨(Nat.le_of_ble_eq_true rfl), (Nat.le_of_ble_eq_true rfl)⟩ dX2_setOfTime_70 (fun _ _ z => False.elim z) (fun v9 ws9 h21 => ?_)
    obtain ⟨r23, K24, hK24, rfl, hw9⟩ := h21
    subst ws9
    dsimp only [mPush]
    exact r_iret hX hE dX2_setOfTime_73 (Nat.le_of_ble_eq_true rfl) (Nat.le_of_ble_eq_true rfl) ⟨_, K24, (hK24.trans rfl), rfl, rfl⟩
  refine r_tableOut (tgt := 74) hX dX2_setOfTime_1 (by omega) (by decide) ?_
  refine r_iload_n hX dX2_setOfTime_74 rfl rfl ?_
  refine r_i2l hX dX2_setOfTime_75 ?_
  refine r_lconst (v := 0) hX dX2_setOfTime_76 (by decide) ?_
  refine r_ldc2 hX kc_X2_348 dX2_setOfTime_77 ?_
  refine r_callS hX (c_X2_isWithin _ _ _ _ _) ks_X2_48 rfl rfl (Nat.le_of_ble_eq_true rfl) ⟨(Nat.le_of_ble_eq_true rfl), (Nat.le_of_ble_eq_true rfl)⟩ ⟨(Nat.le_of_ble_eq_true rfl), (Nat.le_of_ble_eq_true rfl)⟩ dX2_setOfTime_80 (fun _ _ z => False.elim z) (fun v9 ws9 h25 => ?_)
  obtain ⟨rfl, hw9⟩ := h25
  subst ws9
  dsimp only [mPush]
  refine r_if_eq (tgt := 103) hX dX2_setOfTime_83 (by decide) (fun c27 => ?_) (fun c27 => ?_)
  · refine r_aload_n hX dX2_setOfTime_103 rfl rfl ?_
    refine r_callV hX (c_X2_refused _ _ _ _) kv_X2_56 0 rfl rfl rfl rfl (Nat.le_of_ble_eq_true rfl) ⟨(Nat.le_of_ble_eq_true rfl), (Nat.le_of_ble_eq_true rfl)⟩ ⟨(Nat.le_of_ble_eq_true rfl), (Nat.le_of_ble_eq_true rfl)⟩ dX2_setOfTime_104 (fun _ _ z => False.elim z) (fun v9 ws9 h28 => ?_)
    obtain ⟨r30, K31, hK31, rfl, hw9⟩ := h28
    subst ws9
    dsimp only [mPush]
    exact r_iret hX hE dX2_setOfTime_107 (Nat.le_of_ble_eq_true rfl) (Nat.le_of_ble_eq_true rfl) ⟨_, K31, (hK31.trans rfl), rfl, rfl⟩
  · refine r_aload_n hX dX2_setOfTime_86 rfl rfl ?_
    refine r_aload_n hX dX2_setOfTime_87 rfl rfl ?_
    refine r_aload_n hX dX2_setOfTime_88 rfl rfl ?_
    refine r_getN hX kg_X2_146 (d0 + 5) (mWd_loc hd0) rfl dX2_setOfTime_89 ?_
    refine r_iload_n hX dX2_setOfTime_92 rfl rfl ?_
    refine r_aload_n hX dX2_setOfTime_93 rfl rfl ?_
    refine r_getN hX kg_X2_158 (d0 + 5) (mWd_loc hd0) rfl dX2_setOfTime_94 ?_
    refine r_callV hX (c_X2_putLocal _ _ _ _ d0 hd0 _ _ _) kv_X2_132 0 rfl rfl rfl rfl (Nat.le_of_ble_eq_true rfl) ⟨(Nat.le_of_ble_eq_true rfl), (Nat.le_of_ble_eq_true rfl)⟩ ⟨(Nat.le_of_ble_eq_true rfl), (Nat.le_of_ble_eq_true rfl)⟩ dX2_setOfTime_97 (fun _ _ z => False.elim z) (fun v9 ws9 h32 => ?_)
    obtain ⟨r34, K35, hK35, rfl, hw9⟩ := h32
    subst ws9
    dsimp only [mPush]
    refine r_goto (tgt := 107) hX dX2_setOfTime_100 (by decide) ?_
    exact r_iret hX hE dX2_setOfTime_107 (Nat.le_of_ble_eq_true rfl) (Nat.le_of_ble_eq_true rfl) ⟨_, K35, (hK35.trans rfl), rfl, rfl⟩
theorem dX2_firstDated_0 : decode cX2_firstDated 0 = .ok (.iconst 0, 1) := by decide +kernel
theorem dX2_firstDated_1 : decode cX2_firstDated 1 = .ok (.istore_n 1, 1) := by decide +kernel
theorem dX2_firstDated_2 : decode cX2_firstDated 2 = .ok (.iconst 1, 1) := by decide +kernel
theorem dX2_firstDated_3 : decode cX2_firstDated 3 = .ok (.istore_n 2, 1) := by decide +kernel
theorem dX2_firstDated_4 : decode cX2_firstDated 4 = .ok (.iload_n 2, 1) := by decide +kernel
theorem dX2_firstDated_5 : decode cX2_firstDated 5 = .ok (.aload_n 0, 1) := by decide +kernel
theorem dX2_firstDated_6 : decode cX2_firstDated 6 = .ok (.getfield 20, 3) := by decide +kernel
theorem dX2_firstDated_9 : decode cX2_firstDated 9 = .ok (.arraylength, 1) := by decide +kernel
theorem dX2_firstDated_10 : decode cX2_firstDated 10 = .ok (.if_icmp .ge 33, 3) := by decide +kernel
theorem dX2_firstDated_13 : decode cX2_firstDated 13 = .ok (.aload_n 0, 1) := by decide +kernel
theorem dX2_firstDated_14 : decode cX2_firstDated 14 = .ok (.getfield 20, 3) := by decide +kernel
theorem dX2_firstDated_17 : decode cX2_firstDated 17 = .ok (.iload_n 2, 1) := by decide +kernel
theorem dX2_firstDated_18 : decode cX2_firstDated 18 = .ok (.invokestatic 84, 3) := by decide +kernel
theorem dX2_firstDated_21 : decode cX2_firstDated 21 = .ok (.aload_n 0, 1) := by decide +kernel
theorem dX2_firstDated_22 : decode cX2_firstDated 22 = .ok (.getfield 20, 3) := by decide +kernel
theorem dX2_firstDated_25 : decode cX2_firstDated 25 = .ok (.iload_n 1, 1) := by decide +kernel
theorem dX2_firstDated_26 : decode cX2_firstDated 26 = .ok (.invokestatic 84, 3) := by decide +kernel
theorem dX2_firstDated_29 : decode cX2_firstDated 29 = .ok (.invokevirtual 179, 3) := by decide +kernel
theorem dX2_firstDated_32 : decode cX2_firstDated 32 = .ok (.ifCond .ge 5, 3) := by decide +kernel
theorem dX2_firstDated_35 : decode cX2_firstDated 35 = .ok (.iload_n 2, 1) := by decide +kernel
theorem dX2_firstDated_36 : decode cX2_firstDated 36 = .ok (.istore_n 1, 1) := by decide +kernel
theorem dX2_firstDated_37 : decode cX2_firstDated 37 = .ok (.iinc 2 1, 3) := by decide +kernel
theorem dX2_firstDated_40 : decode cX2_firstDated 40 = .ok (.goto (-36), 3) := by decide +kernel
theorem dX2_firstDated_43 : decode cX2_firstDated 43 = .ok (.iload_n 1, 1) := by decide +kernel
theorem dX2_firstDated_44 : decode cX2_firstDated 44 = .ok (.ireturn, 1) := by decide +kernel
set_option maxHeartbeats 4000000 in
set_option maxRecDepth 20000 in
theorem c_X2_firstDated (ad : Nat → Nat) (cs : ClassId × ClassId × ClassId) (K : mK) (rest : va_W) : mCt (mTy cs) yX2_firstDated cX2_firstDated 3 (some .int) ⟨3, 0, 0, 67⟩ [.ref (ad 0)] (mWd ad cs K rest) (mWi ad cs K rest) mNo := by
  refine mCt.of (by decide +kernel) (Nat.le_of_ble_eq_true rfl) (fun X hX hE => ?_)
  have hX : mOK X RX2 cX2_firstDated 3 ⟨3, 0, 0, 67⟩ [] (mTy cs) := hX
  refine r_iconst (v := 0) hX dX2_firstDated_0 (by decide) ?_
  refine r_istore_n hX dX2_firstDated_1 rfl (by decide) rfl ?_
  refine r_iconst (v := 1) hX dX2_firstDated_2 (by decide) ?_
  refine r_istore_n hX dX2_firstDated_3 rfl (by decide) rfl ?_
  have L4 : ∀ (N4 j1 : Nat) (f2 : Nat), 4 - j1 < N4 → j1 ≤ 4 → f2 < 4 → ∀ K3 : mK, K3.1 = K.1 → mV X 4 [(0, some (.ref (ad 0))), (1, some (.int (nI f2))), (2, some (.int (nI j1)))] [] (mWd ad cs K3 rest) 0 0 := by
    intro N4
    induction N4 with
    | zero => intro j1 f2; omega
    | succ N4 ih4 =>
      intro j1 f2 hN4 hj1e hf2 K3 hK3
      refine r_iload_n hX dX2_firstDated_4 rfl rfl ?_
      refine r_aload_n hX dX2_firstDated_5 rfl rfl ?_
      refine r_get hX kf_X2_20 0 rfl rfl dX2_firstDated_6 ?_
      refine r_alen (v := nI 4) hX 3 2 rfl rfl rfl dX2_firstDated_9 ?_
      refine r_icmp_ge (tgt := 43) hX dX2_firstDated_10 (by decide) (fun c5 => ?_) (fun c5 => ?_)
      · refine r_iload_n hX dX2_firstDated_43 rfl rfl ?_
        exact r_iret hX hE dX2_firstDated_44 (Nat.le_of_ble_eq_true rfl) (Nat.le_of_ble_eq_true rfl) ⟨_, K3, hK3, rfl, rfl⟩
      · have hj1 : j1 < 4 := mlt (by first | rfl | decide) (by decide) hj1e c5
        refine r_aload_n hX dX2_firstDated_13 rfl rfl ?_
        refine r_get hX kf_X2_20 0 rfl rfl dX2_firstDated_14 ?_
        refine r_iload_n hX dX2_firstDated_17 rfl rfl ?_
        refine r_callS hX (c_X2_at_ok ad cs _ 3 _ 4 0 rfl (by decide) j1 hj1) ks_X2_84 rfl rfl (Nat.le_of_ble_eq_true rfl) ⟨(Nat.le_of_ble_eq_true rfl), (Nat.le_of_ble_eq_true rfl)⟩ ⟨(Nat.le_of_ble_eq_true rfl), (Nat.le_of_ble_eq_true rfl)⟩ dX2_firstDated_18 (fun _ _ z => False.elim z) (fun v9 ws9 h6 => ?_)
        obtain ⟨rfl, hw9⟩ := h6
        subst ws9
        dsimp only [mPush]
        refine r_aload_n hX dX2_firstDated_21 rfl rfl ?_
        refine r_get hX kf_X2_20 0 rfl rfl dX2_firstDated_22 ?_
        refine r_iload_n hX dX2_firstDated_25 rfl rfl ?_
        refine r_callS hX (c_X2_at_ok ad cs _ 3 _ 4 0 rfl (by decide) f2 hf2) ks_X2_84 rfl rfl (Nat.le_of_ble_eq_true rfl) ⟨(Nat.le_of_ble_eq_true rfl), (Nat.le_of_ble_eq_true rfl)⟩ ⟨(Nat.le_of_ble_eq_true rfl), (Nat.le_of_ble_eq_true rfl)⟩ dX2_firstDated_26 (fun _ _ z => False.elim z) (fun v9 ws9 h8 => ?_)
        obtain ⟨rfl, hw9⟩ := h8
        subst ws9
        dsimp only [mPush]
        refine r_callV hX (c_X1_orderTo _ _ (j1 + 5) _ _ _ _ (mWd_loc (d := j1) (by omega)) (f2 + 5) _ _ _ _ (mWd_loc (d := f2) (by omega))) kv_X2_179 (j1 + 5) (mWd_loc (d := j1) (by omega)) rfl rfl rfl (Nat.le_of_ble_eq_true rfl) ⟨(Nat.le_of_ble_eq_true rfl), (Nat.le_of_ble_eq_true rfl)⟩ ⟨(Nat.le_of_ble_eq_true rfl), (Nat.le_of_ble_eq_true rfl)⟩ dX2_firstDated_29 (fun _ _ z => False.elim z) (fun v9 ws9 h10 => ?_)
        obtain ⟨r12, rfl, hw9⟩ := h10
        subst ws9
        dsimp only [mPush]
        refine r_if_ge (tgt := 37) hX dX2_firstDated_32 (by decide) (fun c13 => ?_) (fun c13 => ?_)
        · refine r_iinc hX dX2_firstDated_37 rfl (by decide) rfl ?_
          refine r_goto (tgt := 4) hX dX2_firstDated_40 (by decide) ?_
          exact r_loc (k' := 0) (n' := 0) (by exact ⟨rfl, rfl, nI_inc' _, trivial⟩) (by decide) (by decide) (ih4 (j1 + 1) f2 (by omega) (by omega) hf2 _ hK3)
        · refine r_iload_n hX dX2_firstDated_35 rfl rfl ?_
          refine r_istore_n hX dX2_firstDated_36 rfl (by decide) rfl ?_
          refine r_iinc hX dX2_firstDated_37 rfl (by decide) rfl ?_
          refine r_goto (tgt := 4) hX dX2_firstDated_40 (by decide) ?_
          exact r_loc (k' := 0) (n' := 0) (by exact ⟨rfl, rfl, nI_inc' _, trivial⟩) (by decide) (by decide) (ih4 (j1 + 1) j1 (by omega) (by omega) hj1 _ hK3)
  exact r_loc (k' := 0) (n' := 0) (by exact ⟨rfl, rfl, rfl, trivial⟩) (by decide) (by decide) (L4 (4 + 1) 1 0 (by omega) (by omega) (by decide) _ rfl)
end
section
/-! The class, its contracts (rows by a program of this repository). -/
theorem dX2_areMomentsSound_0 : decode cX2_areMomentsSound 0 = .ok (.iconst 0, 1) := by decide +kernel
theorem dX2_areMomentsSound_1 : decode cX2_areMomentsSound 1 = .ok (.istore_n 1, 1) := by decide +kernel
theorem dX2_areMomentsSound_2 : decode cX2_areMomentsSound 2 = .ok (.iload_n 1, 1) := by decide +kernel
theorem dX2_areMomentsSound_3 : decode cX2_areMomentsSound 3 = .ok (.aload_n 0, 1) := by decide +kernel
theorem dX2_areMomentsSound_4 : decode cX2_areMomentsSound 4 = .ok (.getfield 13, 3) := by decide +kernel
theorem dX2_areMomentsSound_7 : decode cX2_areMomentsSound 7 = .ok (.arraylength, 1) := by decide +kernel
theorem dX2_areMomentsSound_8 : decode cX2_areMomentsSound 8 = .ok (.if_icmp .ge 80, 3) := by decide +kernel
theorem dX2_areMomentsSound_11 : decode cX2_areMomentsSound 11 = .ok (.aload_n 0, 1) := by decide +kernel
theorem dX2_areMomentsSound_12 : decode cX2_areMomentsSound 12 = .ok (.getfield 13, 3) := by decide +kernel
theorem dX2_areMomentsSound_15 : decode cX2_areMomentsSound 15 = .ok (.iload_n 1, 1) := by decide +kernel
theorem dX2_areMomentsSound_16 : decode cX2_areMomentsSound 16 = .ok (.laload, 1) := by decide +kernel
theorem dX2_areMomentsSound_17 : decode cX2_areMomentsSound 17 = .ok (.lstore_n 2, 1) := by decide +kernel
theorem dX2_areMomentsSound_18 : decode cX2_areMomentsSound 18 = .ok (.iconst 0, 1) := by decide +kernel
theorem dX2_areMomentsSound_19 : decode cX2_areMomentsSound 19 = .ok (.istore 4, 2) := by decide +kernel
theorem dX2_areMomentsSound_21 : decode cX2_areMomentsSound 21 = .ok (.iload 4, 2) := by decide +kernel
theorem dX2_areMomentsSound_23 : decode cX2_areMomentsSound 23 = .ok (.aload_n 0, 1) := by decide +kernel
theorem dX2_areMomentsSound_24 : decode cX2_areMomentsSound 24 = .ok (.getfield 9, 3) := by decide +kernel
theorem dX2_areMomentsSound_27 : decode cX2_areMomentsSound 27 = .ok (.arraylength, 1) := by decide +kernel
theorem dX2_areMomentsSound_28 : decode cX2_areMomentsSound 28 = .ok (.if_icmp .ge 54, 3) := by decide +kernel
theorem dX2_areMomentsSound_31 : decode cX2_areMomentsSound 31 = .ok (.aload_n 0, 1) := by decide +kernel
theorem dX2_areMomentsSound_32 : decode cX2_areMomentsSound 32 = .ok (.getfield 27, 3) := by decide +kernel
theorem dX2_areMomentsSound_35 : decode cX2_areMomentsSound 35 = .ok (.lload_n 2, 1) := by decide +kernel
theorem dX2_areMomentsSound_36 : decode cX2_areMomentsSound 36 = .ok (.invokestatic 96, 3) := by decide +kernel
theorem dX2_areMomentsSound_39 : decode cX2_areMomentsSound 39 = .ok (.aload_n 0, 1) := by decide +kernel
theorem dX2_areMomentsSound_40 : decode cX2_areMomentsSound 40 = .ok (.getfield 9, 3) := by decide +kernel
theorem dX2_areMomentsSound_43 : decode cX2_areMomentsSound 43 = .ok (.iload 4, 2) := by decide +kernel
theorem dX2_areMomentsSound_45 : decode cX2_areMomentsSound 45 = .ok (.iaload, 1) := by decide +kernel
theorem dX2_areMomentsSound_46 : decode cX2_areMomentsSound 46 = .ok (.i2l, 1) := by decide +kernel
theorem dX2_areMomentsSound_47 : decode cX2_areMomentsSound 47 = .ok (.ladd, 1) := by decide +kernel
theorem dX2_areMomentsSound_48 : decode cX2_areMomentsSound 48 = .ok (.lload_n 2, 1) := by decide +kernel
theorem dX2_areMomentsSound_49 : decode cX2_areMomentsSound 49 = .ok (.invokestatic 92, 3) := by decide +kernel
theorem dX2_areMomentsSound_52 : decode cX2_areMomentsSound 52 = .ok (.aload_n 0, 1) := by decide +kernel
theorem dX2_areMomentsSound_53 : decode cX2_areMomentsSound 53 = .ok (.getfield 9, 3) := by decide +kernel
theorem dX2_areMomentsSound_56 : decode cX2_areMomentsSound 56 = .ok (.iload 4, 2) := by decide +kernel
theorem dX2_areMomentsSound_58 : decode cX2_areMomentsSound 58 = .ok (.iaload, 1) := by decide +kernel
theorem dX2_areMomentsSound_59 : decode cX2_areMomentsSound 59 = .ok (.invokevirtual 270, 3) := by decide +kernel
theorem dX2_areMomentsSound_62 : decode cX2_areMomentsSound 62 = .ok (.aload_n 0, 1) := by decide +kernel
theorem dX2_areMomentsSound_63 : decode cX2_areMomentsSound 63 = .ok (.getfield 27, 3) := by decide +kernel
theorem dX2_areMomentsSound_66 : decode cX2_areMomentsSound 66 = .ok (.invokestatic 88, 3) := by decide +kernel
theorem dX2_areMomentsSound_69 : decode cX2_areMomentsSound 69 = .ok (.lload_n 2, 1) := by decide +kernel
theorem dX2_areMomentsSound_70 : decode cX2_areMomentsSound 70 = .ok (.lcmp, 1) := by decide +kernel
theorem dX2_areMomentsSound_71 : decode cX2_areMomentsSound 71 = .ok (.ifCond .eq 5, 3) := by decide +kernel
theorem dX2_areMomentsSound_74 : decode cX2_areMomentsSound 74 = .ok (.iconst 0, 1) := by decide +kernel
theorem dX2_areMomentsSound_75 : decode cX2_areMomentsSound 75 = .ok (.ireturn, 1) := by decide +kernel
theorem dX2_areMomentsSound_76 : decode cX2_areMomentsSound 76 = .ok (.iinc 4 1, 3) := by decide +kernel
theorem dX2_areMomentsSound_79 : decode cX2_areMomentsSound 79 = .ok (.goto (-58), 3) := by decide +kernel
theorem dX2_areMomentsSound_82 : decode cX2_areMomentsSound 82 = .ok (.iinc 1 1, 3) := by decide +kernel
theorem dX2_areMomentsSound_85 : decode cX2_areMomentsSound 85 = .ok (.goto (-83), 3) := by decide +kernel
theorem dX2_areMomentsSound_88 : decode cX2_areMomentsSound 88 = .ok (.iconst 1, 1) := by decide +kernel
theorem dX2_areMomentsSound_89 : decode cX2_areMomentsSound 89 = .ok (.ireturn, 1) := by decide +kernel
set_option maxHeartbeats 4000000 in
set_option maxRecDepth 20000 in
theorem c_X2_areMomentsSound (ad : Nat → Nat) (cs : ClassId × ClassId × ClassId) (K : mK) (rest : va_W) : mCt (mTy cs) yX2_areMomentsSound cX2_areMomentsSound 5 (some .boolean) ⟨2, 0, 0, 46⟩ [.ref (ad 0)] (mWd ad cs K rest) (mWb ad cs K rest) mNo := by
  refine mCt.of (by decide +kernel) (Nat.le_of_ble_eq_true rfl) (fun X hX hE => ?_)
  have hX : mOK X RX2 cX2_areMomentsSound 5 ⟨2, 0, 0, 46⟩ [] (mTy cs) := hX
  refine r_iconst (v := 0) hX dX2_areMomentsSound_0 (by decide) ?_
  refine r_istore_n hX dX2_areMomentsSound_1 rfl (by decide) rfl ?_
  have L2 : ∀ (N3 j1 : Nat), 4 - j1 < N3 → j1 ≤ 4 → ∀ K2 : mK, K2.1 = K.1 → mV X 2 [(0, some (.ref (ad 0))), (1, some (.int (nI j1)))] [] (mWd ad cs K2 rest) 0 0 := by
    intro N3
    induction N3 with
    | zero => intro j1; omega
    | succ N3 ih2 =>
      intro j1 hN2 hj1e K2 hK2
      refine r_iload_n hX dX2_areMomentsSound_2 rfl rfl ?_
      refine r_aload_n hX dX2_areMomentsSound_3 rfl rfl ?_
      refine r_get hX kf_X2_13 0 rfl rfl dX2_areMomentsSound_4 ?_
      refine r_alen (v := nI 4) hX 2 1 rfl rfl rfl dX2_areMomentsSound_7 ?_
      refine r_icmp_ge (tgt := 88) hX dX2_areMomentsSound_8 (by decide) (fun c4 => ?_) (fun c4 => ?_)
      · refine r_iconst (v := 1) hX dX2_areMomentsSound_88 (by decide) ?_
        exact r_zret hX hE dX2_areMomentsSound_89 (mB_n (Or.inr rfl)) (Nat.le_of_ble_eq_true rfl) (Nat.le_of_ble_eq_true rfl) ⟨_, K2, (Or.inr rfl), hK2, rfl, rfl⟩
      · have hj1 : j1 < 4 := mlt (by first | rfl | decide) (by decide) hj1e c4
        refine r_aload_n hX dX2_areMomentsSound_11 rfl rfl ?_
        refine r_get hX kf_X2_13 0 rfl rfl dX2_areMomentsSound_12 ?_
        refine r_iload_n hX dX2_areMomentsSound_15 rfl rfl ?_
        refine r_lald hX 2 1 rfl rfl (vp_in_nI hj1 (by decide)) dX2_areMomentsSound_16 ?_
        refine r_lstore_n hX dX2_areMomentsSound_17 rfl (by decide) rfl ?_
        refine r_iconst (v := 0) hX dX2_areMomentsSound_18 (by decide) ?_
        refine r_istore hX dX2_areMomentsSound_19 (by decide) rfl ?_
        have L21 : ∀ (N8 j5 : Nat) (x6 : Int64), 4 - j5 < N8 → j5 ≤ 4 → ∀ K7 : mK, K7.1 = K.1 → mV X 21 [(0, some (.ref (ad 0))), (1, some (.int (nI j1))), (2, some (.long x6)), (4, some (.int (nI j5)))] [] (mWd ad cs K7 rest) 0 0 := by
          intro N8
          induction N8 with
          | zero => intro j5 x6; omega
          | succ N8 ih21 =>
            intro j5 x6 hN21 hj5e K7 hK7
            refine r_iload hX dX2_areMomentsSound_21 rfl ?_
            refine r_aload_n hX dX2_areMomentsSound_23 rfl rfl ?_
            refine r_get hX kf_X2_9 0 rfl rfl dX2_areMomentsSound_24 ?_
            refine r_alen (v := nI 4) hX 1 0 rfl rfl rfl dX2_areMomentsSound_27 ?_
            refine r_icmp_ge (tgt := 82) hX dX2_areMomentsSound_28 (by decide) (fun c9 => ?_) (fun c9 => ?_)
            · refine r_iinc hX dX2_areMomentsSound_82 rfl (by decide) rfl ?_
              refine r_goto (tgt := 2) hX dX2_areMomentsSound_85 (by decide) ?_
              exact r_loc (k' := 0) (n' := 0) (by exact ⟨rfl, nI_inc' _, trivial⟩) (by decide) (by decide) (ih2 (j1 + 1) (by omega) (by omega) _ hK7)
            · have hj5 : j5 < 4 := mlt (by first | rfl | decide) (by decide) hj5e c9
              refine r_aload_n hX dX2_areMomentsSound_31 rfl rfl ?_
              refine r_get hX kf_X2_27 0 rfl rfl dX2_areMomentsSound_32 ?_
              refine r_lload_n hX dX2_areMomentsSound_35 rfl rfl ?_
              refine r_callS hX (c_X2_secondOf _ _ _) ks_X2_96 rfl rfl (Nat.le_of_ble_eq_true rfl) ⟨(Nat.le_of_ble_eq_true rfl), (Nat.le_of_ble_eq_true rfl)⟩ ⟨(Nat.le_of_ble_eq_true rfl), (Nat.le_of_ble_eq_true rfl)⟩ dX2_areMomentsSound_36 (fun _ _ z => False.elim z) (fun v9 ws9 h10 => ?_)
              obtain ⟨r12, rfl, hw9⟩ := h10
              subst ws9
              dsimp only [mPush]
              refine r_aload_n hX dX2_areMomentsSound_39 rfl rfl ?_
              refine r_get hX kf_X2_9 0 rfl rfl dX2_areMomentsSound_40 ?_
              refine r_iload hX dX2_areMomentsSound_43 rfl ?_
              refine r_iald hX 1 0 rfl rfl (vp_in_nI hj5 (by decide)) dX2_areMomentsSound_45 ?_
              refine r_i2l hX dX2_areMomentsSound_46 ?_
              refine r_ladd hX dX2_areMomentsSound_47 ?_
              refine r_lload_n hX dX2_areMomentsSound_48 rfl rfl ?_
              refine r_callS hX (c_X2_nanoOf _ _ _) ks_X2_92 rfl rfl (Nat.le_of_ble_eq_true rfl) ⟨(Nat.le_of_ble_eq_true rfl), (Nat.le_of_ble_eq_true rfl)⟩ ⟨(Nat.le_of_ble_eq_true rfl), (Nat.le_of_ble_eq_true rfl)⟩ dX2_areMomentsSound_49 (fun _ _ z => False.elim z) (fun v9 ws9 h13 => ?_)
              obtain ⟨r15, rfl, hw9⟩ := h13
              subst ws9
              dsimp only [mPush]
              refine r_aload_n hX dX2_areMomentsSound_52 rfl rfl ?_
              refine r_get hX kf_X2_9 0 rfl rfl dX2_areMomentsSound_53 ?_
              refine r_iload hX dX2_areMomentsSound_56 rfl ?_
              refine r_iald hX 1 0 rfl rfl (vp_in_nI hj5 (by decide)) dX2_areMomentsSound_58 ?_
              refine r_callV hX (c_X1_tell _ _ 12 _ _ _ _ (mWd_loc (d := 7) (by decide)) _ _ _) kv_X2_270 12 (mWd_loc (d := 7) (by decide)) rfl rfl rfl (Nat.le_of_ble_eq_true rfl) ⟨(Nat.le_of_ble_eq_true rfl), (Nat.le_of_ble_eq_true rfl)⟩ ⟨(Nat.le_of_ble_eq_true rfl), (Nat.le_of_ble_eq_true rfl)⟩ dX2_areMomentsSound_59 (fun _ _ z => False.elim z) (fun v9 ws9 h16 => ?_)
              obtain ⟨rfl, hw9⟩ := h16
              subst ws9
              dsimp only [mPush]
              rw [mWd_set (d := 7) (by decide)]
              refine r_aload_n hX dX2_areMomentsSound_62 rfl rfl ?_
              refine r_get hX kf_X2_27 0 rfl rfl dX2_areMomentsSound_63 ?_
              refine r_callS hX (c_X2_numberOf _ _ 12 _ _ _ _ (mWd_loc (d := 7) (by decide))) ks_X2_88 rfl rfl (Nat.le_of_ble_eq_true rfl) ⟨(Nat.le_of_ble_eq_true rfl), (Nat.le_of_ble_eq_true rfl)⟩ ⟨(Nat.le_of_ble_eq_true rfl), (Nat.le_of_ble_eq_true rfl)⟩ dX2_areMomentsSound_66 (fun _ _ z => False.elim z) (fun v9 ws9 h18 => ?_)
              obtain ⟨r20, rfl, hw9⟩ := h18
              subst ws9
              dsimp only [mPush]
              refine r_lload_n hX dX2_areMomentsSound_69 rfl rfl ?_
              refine r_lcmp hX dX2_areMomentsSound_70 ?_
              refine r_if_eq (tgt := 76) hX dX2_areMomentsSound_71 (by decide) (fun c21 => ?_) (fun c21 => ?_)
              · refine r_iinc hX dX2_areMomentsSound_76 rfl (by decide) rfl ?_
                refine r_goto (tgt := 21) hX dX2_areMomentsSound_79 (by decide) ?_
                exact r_loc (k' := 0) (n' := 0) (by exact ⟨rfl, rfl, rfl, nI_inc' _, trivial⟩) (by decide) (by decide) (ih21 (j5 + 1) _ (by omega) (by omega) _ hK7)
              · refine r_iconst (v := 0) hX dX2_areMomentsSound_74 (by decide) ?_
                exact r_zret hX hE dX2_areMomentsSound_75 (mB_n (Or.inl rfl)) (Nat.le_of_ble_eq_true rfl) (Nat.le_of_ble_eq_true rfl) ⟨_, (mKL K7 7 _), (Or.inl rfl), hK7, rfl, rfl⟩
        exact r_loc (k' := 0) (n' := 0) (by exact ⟨rfl, rfl, rfl, rfl, trivial⟩) (by decide) (by decide) (L21 (4 + 1) 0 _ (by omega) (by omega) _ hK2)
  exact r_loc (k' := 0) (n' := 0) (by exact ⟨rfl, rfl, trivial⟩) (by decide) (by decide) (L2 (4 + 1) 0 (by omega) (by omega) _ rfl)
theorem dX2_isToldAnewSound_0 : decode cX2_isToldAnewSound 0 = .ok (.aload_n 1, 1) := by decide +kernel
theorem dX2_isToldAnewSound_1 : decode cX2_isToldAnewSound 1 = .ok (.invokevirtual 169, 3) := by decide +kernel
theorem dX2_isToldAnewSound_4 : decode cX2_isToldAnewSound 4 = .ok (.iload_n 2, 1) := by decide +kernel
theorem dX2_isToldAnewSound_5 : decode cX2_isToldAnewSound 5 = .ok (.i2l, 1) := by decide +kernel
theorem dX2_isToldAnewSound_6 : decode cX2_isToldAnewSound 6 = .ok (.ladd, 1) := by decide +kernel
theorem dX2_isToldAnewSound_7 : decode cX2_isToldAnewSound 7 = .ok (.lstore_n 3, 1) := by decide +kernel
theorem dX2_isToldAnewSound_8 : decode cX2_isToldAnewSound 8 = .ok (.lload_n 3, 1) := by decide +kernel
theorem dX2_isToldAnewSound_9 : decode cX2_isToldAnewSound 9 = .ok (.ldc2_w 266, 3) := by decide +kernel
theorem dX2_isToldAnewSound_12 : decode cX2_isToldAnewSound 12 = .ok (.ldc2_w 268, 3) := by decide +kernel
theorem dX2_isToldAnewSound_15 : decode cX2_isToldAnewSound 15 = .ok (.invokestatic 48, 3) := by decide +kernel
theorem dX2_isToldAnewSound_18 : decode cX2_isToldAnewSound 18 = .ok (.ifCond .ne 5, 3) := by decide +kernel
theorem dX2_isToldAnewSound_21 : decode cX2_isToldAnewSound 21 = .ok (.iconst 1, 1) := by decide +kernel
theorem dX2_isToldAnewSound_22 : decode cX2_isToldAnewSound 22 = .ok (.ireturn, 1) := by decide +kernel
theorem dX2_isToldAnewSound_23 : decode cX2_isToldAnewSound 23 = .ok (.aload_n 0, 1) := by decide +kernel
theorem dX2_isToldAnewSound_24 : decode cX2_isToldAnewSound 24 = .ok (.getfield 27, 3) := by decide +kernel
theorem dX2_isToldAnewSound_27 : decode cX2_isToldAnewSound 27 = .ok (.lload_n 3, 1) := by decide +kernel
theorem dX2_isToldAnewSound_28 : decode cX2_isToldAnewSound 28 = .ok (.aload_n 1, 1) := by decide +kernel
theorem dX2_isToldAnewSound_29 : decode cX2_isToldAnewSound 29 = .ok (.getfield 172, 3) := by decide +kernel
theorem dX2_isToldAnewSound_32 : decode cX2_isToldAnewSound 32 = .ok (.iload_n 2, 1) := by decide +kernel
theorem dX2_isToldAnewSound_33 : decode cX2_isToldAnewSound 33 = .ok (.invokevirtual 270, 3) := by decide +kernel
theorem dX2_isToldAnewSound_36 : decode cX2_isToldAnewSound 36 = .ok (.aload_n 0, 1) := by decide +kernel
theorem dX2_isToldAnewSound_37 : decode cX2_isToldAnewSound 37 = .ok (.getfield 27, 3) := by decide +kernel
theorem dX2_isToldAnewSound_40 : decode cX2_isToldAnewSound 40 = .ok (.aload_n 1, 1) := by decide +kernel
theorem dX2_isToldAnewSound_41 : decode cX2_isToldAnewSound 41 = .ok (.invokevirtual 360, 3) := by decide +kernel
theorem dX2_isToldAnewSound_44 : decode cX2_isToldAnewSound 44 = .ok (.istore 5, 2) := by decide +kernel
theorem dX2_isToldAnewSound_46 : decode cX2_isToldAnewSound 46 = .ok (.aload_n 0, 1) := by decide +kernel
theorem dX2_isToldAnewSound_47 : decode cX2_isToldAnewSound 47 = .ok (.getfield 27, 3) := by decide +kernel
theorem dX2_isToldAnewSound_50 : decode cX2_isToldAnewSound 50 = .ok (.aload_n 0, 1) := by decide +kernel
theorem dX2_isToldAnewSound_51 : decode cX2_isToldAnewSound 51 = .ok (.getfield 27, 3) := by decide +kernel
theorem dX2_isToldAnewSound_54 : decode cX2_isToldAnewSound 54 = .ok (.invokevirtual 169, 3) := by decide +kernel
theorem dX2_isToldAnewSound_57 : decode cX2_isToldAnewSound 57 = .ok (.aload_n 1, 1) := by decide +kernel
theorem dX2_isToldAnewSound_58 : decode cX2_isToldAnewSound 58 = .ok (.getfield 158, 3) := by decide +kernel
theorem dX2_isToldAnewSound_61 : decode cX2_isToldAnewSound 61 = .ok (.i2l, 1) := by decide +kernel
theorem dX2_isToldAnewSound_62 : decode cX2_isToldAnewSound 62 = .ok (.ladd, 1) := by decide +kernel
theorem dX2_isToldAnewSound_63 : decode cX2_isToldAnewSound 63 = .ok (.aload_n 0, 1) := by decide +kernel
theorem dX2_isToldAnewSound_64 : decode cX2_isToldAnewSound 64 = .ok (.getfield 27, 3) := by decide +kernel
theorem dX2_isToldAnewSound_67 : decode cX2_isToldAnewSound 67 = .ok (.getfield 172, 3) := by decide +kernel
theorem dX2_isToldAnewSound_70 : decode cX2_isToldAnewSound 70 = .ok (.aload_n 1, 1) := by decide +kernel
theorem dX2_isToldAnewSound_71 : decode cX2_isToldAnewSound 71 = .ok (.getfield 158, 3) := by decide +kernel
theorem dX2_isToldAnewSound_74 : decode cX2_isToldAnewSound 74 = .ok (.invokevirtual 270, 3) := by decide +kernel
theorem dX2_isToldAnewSound_77 : decode cX2_isToldAnewSound 77 = .ok (.iload 5, 2) := by decide +kernel
theorem dX2_isToldAnewSound_79 : decode cX2_isToldAnewSound 79 = .ok (.ifCond .eq 18, 3) := by decide +kernel
theorem dX2_isToldAnewSound_82 : decode cX2_isToldAnewSound 82 = .ok (.aload_n 0, 1) := by decide +kernel
theorem dX2_isToldAnewSound_83 : decode cX2_isToldAnewSound 83 = .ok (.getfield 27, 3) := by decide +kernel
theorem dX2_isToldAnewSound_86 : decode cX2_isToldAnewSound 86 = .ok (.aload_n 1, 1) := by decide +kernel
theorem dX2_isToldAnewSound_87 : decode cX2_isToldAnewSound 87 = .ok (.invokevirtual 363, 3) := by decide +kernel
theorem dX2_isToldAnewSound_90 : decode cX2_isToldAnewSound 90 = .ok (.ifCond .eq 7, 3) := by decide +kernel
theorem dX2_isToldAnewSound_93 : decode cX2_isToldAnewSound 93 = .ok (.iconst 1, 1) := by decide +kernel
theorem dX2_isToldAnewSound_94 : decode cX2_isToldAnewSound 94 = .ok (.goto 4, 3) := by decide +kernel
theorem dX2_isToldAnewSound_97 : decode cX2_isToldAnewSound 97 = .ok (.iconst 0, 1) := by decide +kernel
theorem dX2_isToldAnewSound_98 : decode cX2_isToldAnewSound 98 = .ok (.ireturn, 1) := by decide +kernel
set_option maxHeartbeats 4000000 in
set_option maxRecDepth 20000 in
theorem c_X2_isToldAnewSound (ad : Nat → Nat) (cs : ClassId × ClassId × ClassId) (K : mK) (rest : va_W) (d0 : Nat) (hd0 : d0 < 9) (p1 : Int32) : mCt (mTy cs) yX2_isToldAnewSound cX2_isToldAnewSound 6 (some .boolean) ⟨2, 0, 0, 41⟩ [.ref (ad 0), .ref (ad (d0 + 5)), .int p1] (mWd ad cs K rest) (mWb ad cs K rest) mNo := by
  refine mCt.of (by decide +kernel) (Nat.le_of_ble_eq_true rfl) (fun X hX hE => ?_)
  have hX : mOK X RX2 cX2_isToldAnewSound 6 ⟨2, 0, 0, 41⟩ [] (mTy cs) := hX
  refine r_aload_n hX dX2_isToldAnewSound_0 rfl rfl ?_
  refine r_callV hX (c_X1_momentSecond _ _ (d0 + 5) _ _ _ _ (mWd_loc hd0)) kv_X2_169 (d0 + 5) (mWd_loc hd0) rfl rfl rfl (Nat.le_of_ble_eq_true rfl) ⟨(Nat.le_of_ble_eq_true rfl), (Nat.le_of_ble_eq_true rfl)⟩ ⟨(Nat.le_of_ble_eq_true rfl), (Nat.le_of_ble_eq_true rfl)⟩ dX2_isToldAnewSound_1 (fun _ _ z => False.elim z) (fun v9 ws9 h1 => ?_)
  obtain ⟨r3, rfl, hw9⟩ := h1
  subst ws9
  dsimp only [mPush]
  refine r_iload_n hX dX2_isToldAnewSound_4 rfl rfl ?_
  refine r_i2l hX dX2_isToldAnewSound_5 ?_
  refine r_ladd hX dX2_isToldAnewSound_6 ?_
  refine r_lstore_n hX dX2_isToldAnewSound_7 rfl (by decide) rfl ?_
  refine r_lload_n hX dX2_isToldAnewSound_8 rfl rfl ?_
  refine r_ldc2 hX kc_X2_266 dX2_isToldAnewSound_9 ?_
  refine r_ldc2 hX kc_X2_268 dX2_isToldAnewSound_12 ?_
  refine r_callS hX (c_X2_isWithin _ _ _ _ _) ks_X2_48 rfl rfl (Nat.le_of_ble_eq_true rfl) ⟨(Nat.le_of_ble_eq_true rfl), (Nat.le_of_ble_eq_true rfl)⟩ ⟨(Nat.le_of_ble_eq_true rfl), (Nat.le_of_ble_eq_true rfl)⟩ dX2_isToldAnewSound_15 (fun _ _ z => False.elim z) (fun v9 ws9 h4 => ?_)
  obtain ⟨rfl, hw9⟩ := h4
  subst ws9
  dsimp only [mPush]
  refine r_if_ne (tgt := 23) hX dX2_isToldAnewSound_18 (by decide) (fun c6 => ?_) (fun c6 => ?_)
  · refine r_aload_n hX dX2_isToldAnewSound_23 rfl rfl ?_
    refine r_get hX kf_X2_27 0 rfl rfl dX2_isToldAnewSound_24 ?_
    refine r_lload_n hX dX2_isToldAnewSound_27 rfl rfl ?_
    refine r_aload_n hX dX2_isToldAnewSound_28 rfl rfl ?_
    refine r_getN hX kg_X2_172 (d0 + 5) (mWd_loc hd0) rfl dX2_isToldAnewSound_29 ?_
    refine r_iload_n hX dX2_isToldAnewSound_32 rfl rfl ?_
    refine r_callV hX (c_X1_tell _ _ 12 _ _ _ _ (mWd_loc (d := 7) (by decide)) _ _ _) kv_X2_270 12 (mWd_loc (d := 7) (by decide)) rfl rfl rfl (Nat.le_of_ble_eq_true rfl) ⟨(Nat.le_of_ble_eq_true rfl), (Nat.le_of_ble_eq_true rfl)⟩ ⟨(Nat.le_of_ble_eq_true rfl), (Nat.le_of_ble_eq_true rfl)⟩ dX2_isToldAnewSound_33 (fun _ _ z => False.elim z) (fun v9 ws9 h7 => ?_)
    obtain ⟨rfl, hw9⟩ := h7
    subst ws9
    dsimp only [mPush]
    rw [mWd_set (d := 7) (by decide)]
    refine r_aload_n hX dX2_isToldAnewSound_36 rfl rfl ?_
    refine r_get hX kf_X2_27 0 rfl rfl dX2_isToldAnewSound_37 ?_
    refine r_aload_n hX dX2_isToldAnewSound_40 rfl rfl ?_
    refine r_callV hX (c_X1_isAlike _ _ 12 _ _ _ _ (mWd_loc (d := 7) (by decide)) (d0 + 5) _ _ _ _ (mWd_loc hd0)) kv_X2_360 12 (mWd_loc (d := 7) (by decide)) rfl rfl rfl (Nat.le_of_ble_eq_true rfl) ⟨(Nat.le_of_ble_eq_true rfl), (Nat.le_of_ble_eq_true rfl)⟩ ⟨(Nat.le_of_ble_eq_true rfl), (Nat.le_of_ble_eq_true rfl)⟩ dX2_isToldAnewSound_41 (fun _ _ z => False.elim z) (fun v9 ws9 h9 => ?_)
    obtain ⟨r11, br11, rfl, hw9⟩ := h9
    subst ws9
    dsimp only [mPush]
    refine r_istore hX dX2_isToldAnewSound_44 (by decide) rfl ?_
    refine r_aload_n hX dX2_isToldAnewSound_46 rfl rfl ?_
    refine r_get hX kf_X2_27 0 rfl rfl dX2_isToldAnewSound_47 ?_
    refine r_aload_n hX dX2_isToldAnewSound_50 rfl rfl ?_
    refine r_get hX kf_X2_27 0 rfl rfl dX2_isToldAnewSound_51 ?_
    refine r_callV hX (c_X1_momentSecond _ _ 12 _ _ _ _ (mWd_loc (d := 7) (by decide))) kv_X2_169 12 (mWd_loc (d := 7) (by decide)) rfl rfl rfl (Nat.le_of_ble_eq_true rfl) ⟨(Nat.le_of_ble_eq_true rfl), (Nat.le_of_ble_eq_true rfl)⟩ ⟨(Nat.le_of_ble_eq_true rfl), (Nat.le_of_ble_eq_true rfl)⟩ dX2_isToldAnewSound_54 (fun _ _ z => False.elim z) (fun v9 ws9 h12 => ?_)
    obtain ⟨r14, rfl, hw9⟩ := h12
    subst ws9
    dsimp only [mPush]
    refine r_aload_n hX dX2_isToldAnewSound_57 rfl rfl ?_
    refine r_getN hX kg_X2_158 (d0 + 5) (mWd_loc hd0) rfl dX2_isToldAnewSound_58 ?_
    refine r_i2l hX dX2_isToldAnewSound_61 ?_
    refine r_ladd hX dX2_isToldAnewSound_62 ?_
    refine r_aload_n hX dX2_isToldAnewSound_63 rfl rfl ?_
    refine r_get hX kf_X2_27 0 rfl rfl dX2_isToldAnewSound_64 ?_
    refine r_getN hX kg_X2_172 12 (mWd_loc (d := 7) (by decide)) rfl dX2_isToldAnewSound_67 ?_
    refine r_aload_n hX dX2_isToldAnewSound_70 rfl rfl ?_
    refine r_getN hX kg_X2_158 (d0 + 5) (mWd_loc hd0) rfl dX2_isToldAnewSound_71 ?_
    refine r_callV hX (c_X1_tell _ _ 12 _ _ _ _ (mWd_loc (d := 7) (by decide)) _ _ _) kv_X2_270 12 (mWd_loc (d := 7) (by decide)) rfl rfl rfl (Nat.le_of_ble_eq_true rfl) ⟨(Nat.le_of_ble_eq_true rfl), (Nat.le_of_ble_eq_true rfl)⟩ ⟨(Nat.le_of_ble_eq_true rfl), (Nat.le_of_ble_eq_true rfl)⟩ dX2_isToldAnewSound_74 (fun _ _ z => False.elim z) (fun v9 ws9 h15 => ?_)
    obtain ⟨rfl, hw9⟩ := h15
    subst ws9
    dsimp only [mPush]
    rw [mWd_set (d := 7) (by decide)]
    refine r_iload hX dX2_isToldAnewSound_77 rfl ?_
    refine r_if_eq (tgt := 97) hX dX2_isToldAnewSound_79 (by decide) (fun c17 => ?_) (fun c17 => ?_)
    · refine r_iconst (v := 0) hX dX2_isToldAnewSound_97 (by decide) ?_
      exact r_zret hX hE dX2_isToldAnewSound_98 (mB_n (Or.inl rfl)) (Nat.le_of_ble_eq_true rfl) (Nat.le_of_ble_eq_true rfl) ⟨_, (mKL (mKL K 7 _) 7 _), (Or.inl rfl), rfl, rfl, rfl⟩
    · refine r_aload_n hX dX2_isToldAnewSound_82 rfl rfl ?_
      refine r_get hX kf_X2_27 0 rfl rfl dX2_isToldAnewSound_83 ?_
      refine r_aload_n hX dX2_isToldAnewSound_86 rfl rfl ?_
      refine r_callV hX (c_X1_isSame _ _ 12 _ _ _ _ (mWd_loc (d := 7) (by decide)) (d0 + 5) _ _ _ _ (mWd_loc hd0)) kv_X2_363 12 (mWd_loc (d := 7) (by decide)) rfl rfl rfl (Nat.le_of_ble_eq_true rfl) ⟨(Nat.le_of_ble_eq_true rfl), (Nat.le_of_ble_eq_true rfl)⟩ ⟨(Nat.le_of_ble_eq_true rfl), (Nat.le_of_ble_eq_true rfl)⟩ dX2_isToldAnewSound_87 (fun _ _ z => False.elim z) (fun v9 ws9 h18 => ?_)
      obtain ⟨r20, br20, rfl, hw9⟩ := h18
      subst ws9
      dsimp only [mPush]
      refine r_if_eq (tgt := 97) hX dX2_isToldAnewSound_90 (by decide) (fun c21 => ?_) (fun c21 => ?_)
      · refine r_iconst (v := 0) hX dX2_isToldAnewSound_97 (by decide) ?_
        exact r_zret hX hE dX2_isToldAnewSound_98 (mB_n (Or.inl rfl)) (Nat.le_of_ble_eq_true rfl) (Nat.le_of_ble_eq_true rfl) ⟨_, (mKL (mKL K 7 _) 7 _), (Or.inl rfl), rfl, rfl, rfl⟩
      · refine r_iconst (v := 1) hX dX2_isToldAnewSound_93 (by decide) ?_
        refine r_goto (tgt := 98) hX dX2_isToldAnewSound_94 (by decide) ?_
        exact r_zret hX hE dX2_isToldAnewSound_98 (mB_n (Or.inr rfl)) (Nat.le_of_ble_eq_true rfl) (Nat.le_of_ble_eq_true rfl) ⟨_, (mKL (mKL K 7 _) 7 _), (Or.inr rfl), rfl, rfl, rfl⟩
  · refine r_iconst (v := 1) hX dX2_isToldAnewSound_21 (by decide) ?_
    exact r_zret hX hE dX2_isToldAnewSound_22 (mB_n (Or.inr rfl)) (Nat.le_of_ble_eq_true rfl) (Nat.le_of_ble_eq_true rfl) ⟨_, K, (Or.inr rfl), rfl, rfl, rfl⟩
theorem dX2_areDatesToldAnewSound_0 : decode cX2_areDatesToldAnewSound 0 = .ok (.iconst 0, 1) := by decide +kernel
theorem dX2_areDatesToldAnewSound_1 : decode cX2_areDatesToldAnewSound 1 = .ok (.istore_n 1, 1) := by decide +kernel
theorem dX2_areDatesToldAnewSound_2 : decode cX2_areDatesToldAnewSound 2 = .ok (.iload_n 1, 1) := by decide +kernel
theorem dX2_areDatesToldAnewSound_3 : decode cX2_areDatesToldAnewSound 3 = .ok (.aload_n 0, 1) := by decide +kernel
theorem dX2_areDatesToldAnewSound_4 : decode cX2_areDatesToldAnewSound 4 = .ok (.getfield 20, 3) := by decide +kernel
theorem dX2_areDatesToldAnewSound_7 : decode cX2_areDatesToldAnewSound 7 = .ok (.arraylength, 1) := by decide +kernel
theorem dX2_areDatesToldAnewSound_8 : decode cX2_areDatesToldAnewSound 8 = .ok (.if_icmp .ge 49, 3) := by decide +kernel
theorem dX2_areDatesToldAnewSound_11 : decode cX2_areDatesToldAnewSound 11 = .ok (.iconst 0, 1) := by decide +kernel
theorem dX2_areDatesToldAnewSound_12 : decode cX2_areDatesToldAnewSound 12 = .ok (.istore_n 2, 1) := by decide +kernel
theorem dX2_areDatesToldAnewSound_13 : decode cX2_areDatesToldAnewSound 13 = .ok (.iload_n 2, 1) := by decide +kernel
theorem dX2_areDatesToldAnewSound_14 : decode cX2_areDatesToldAnewSound 14 = .ok (.aload_n 0, 1) := by decide +kernel
theorem dX2_areDatesToldAnewSound_15 : decode cX2_areDatesToldAnewSound 15 = .ok (.getfield 9, 3) := by decide +kernel
theorem dX2_areDatesToldAnewSound_18 : decode cX2_areDatesToldAnewSound 18 = .ok (.arraylength, 1) := by decide +kernel
theorem dX2_areDatesToldAnewSound_19 : decode cX2_areDatesToldAnewSound 19 = .ok (.if_icmp .ge 32, 3) := by decide +kernel
theorem dX2_areDatesToldAnewSound_22 : decode cX2_areDatesToldAnewSound 22 = .ok (.aload_n 0, 1) := by decide +kernel
theorem dX2_areDatesToldAnewSound_23 : decode cX2_areDatesToldAnewSound 23 = .ok (.aload_n 0, 1) := by decide +kernel
theorem dX2_areDatesToldAnewSound_24 : decode cX2_areDatesToldAnewSound 24 = .ok (.getfield 20, 3) := by decide +kernel
theorem dX2_areDatesToldAnewSound_27 : decode cX2_areDatesToldAnewSound 27 = .ok (.iload_n 1, 1) := by decide +kernel
theorem dX2_areDatesToldAnewSound_28 : decode cX2_areDatesToldAnewSound 28 = .ok (.invokestatic 84, 3) := by decide +kernel
theorem dX2_areDatesToldAnewSound_31 : decode cX2_areDatesToldAnewSound 31 = .ok (.aload_n 0, 1) := by decide +kernel
theorem dX2_areDatesToldAnewSound_32 : decode cX2_areDatesToldAnewSound 32 = .ok (.getfield 9, 3) := by decide +kernel
theorem dX2_areDatesToldAnewSound_35 : decode cX2_areDatesToldAnewSound 35 = .ok (.iload_n 2, 1) := by decide +kernel
theorem dX2_areDatesToldAnewSound_36 : decode cX2_areDatesToldAnewSound 36 = .ok (.iaload, 1) := by decide +kernel
theorem dX2_areDatesToldAnewSound_37 : decode cX2_areDatesToldAnewSound 37 = .ok (.invokevirtual 366, 3) := by decide +kernel
theorem dX2_areDatesToldAnewSound_40 : decode cX2_areDatesToldAnewSound 40 = .ok (.ifCond .ne 5, 3) := by decide +kernel
theorem dX2_areDatesToldAnewSound_43 : decode cX2_areDatesToldAnewSound 43 = .ok (.iconst 0, 1) := by decide +kernel
theorem dX2_areDatesToldAnewSound_44 : decode cX2_areDatesToldAnewSound 44 = .ok (.ireturn, 1) := by decide +kernel
theorem dX2_areDatesToldAnewSound_45 : decode cX2_areDatesToldAnewSound 45 = .ok (.iinc 2 1, 3) := by decide +kernel
theorem dX2_areDatesToldAnewSound_48 : decode cX2_areDatesToldAnewSound 48 = .ok (.goto (-35), 3) := by decide +kernel
theorem dX2_areDatesToldAnewSound_51 : decode cX2_areDatesToldAnewSound 51 = .ok (.iinc 1 1, 3) := by decide +kernel
theorem dX2_areDatesToldAnewSound_54 : decode cX2_areDatesToldAnewSound 54 = .ok (.goto (-52), 3) := by decide +kernel
theorem dX2_areDatesToldAnewSound_57 : decode cX2_areDatesToldAnewSound 57 = .ok (.iconst 1, 1) := by decide +kernel
theorem dX2_areDatesToldAnewSound_58 : decode cX2_areDatesToldAnewSound 58 = .ok (.ireturn, 1) := by decide +kernel
set_option maxHeartbeats 4000000 in
set_option maxRecDepth 20000 in
theorem c_X2_areDatesToldAnewSound (ad : Nat → Nat) (cs : ClassId × ClassId × ClassId) (K : mK) (rest : va_W) : mCt (mTy cs) yX2_areDatesToldAnewSound cX2_areDatesToldAnewSound 3 (some .boolean) ⟨3, 0, 0, 66⟩ [.ref (ad 0)] (mWd ad cs K rest) (mWb ad cs K rest) mNo := by
  refine mCt.of (by decide +kernel) (Nat.le_of_ble_eq_true rfl) (fun X hX hE => ?_)
  have hX : mOK X RX2 cX2_areDatesToldAnewSound 3 ⟨3, 0, 0, 66⟩ [] (mTy cs) := hX
  refine r_iconst (v := 0) hX dX2_areDatesToldAnewSound_0 (by decide) ?_
  refine r_istore_n hX dX2_areDatesToldAnewSound_1 rfl (by decide) rfl ?_
  have L2 : ∀ (N3 j1 : Nat), 4 - j1 < N3 → j1 ≤ 4 → ∀ K2 : mK, K2.1 = K.1 → mV X 2 [(0, some (.ref (ad 0))), (1, some (.int (nI j1)))] [] (mWd ad cs K2 rest) 0 0 := by
    intro N3
    induction N3 with
    | zero => intro j1; omega
    | succ N3 ih2 =>
      intro j1 hN2 hj1e K2 hK2
      refine r_iload_n hX dX2_areDatesToldAnewSound_2 rfl rfl ?_
      refine r_aload_n hX dX2_areDatesToldAnewSound_3 rfl rfl ?_
      refine r_get hX kf_X2_20 0 rfl rfl dX2_areDatesToldAnewSound_4 ?_
      refine r_alen (v := nI 4) hX 3 2 rfl rfl rfl dX2_areDatesToldAnewSound_7 ?_
      refine r_icmp_ge (tgt := 57) hX dX2_areDatesToldAnewSound_8 (by decide) (fun c4 => ?_) (fun c4 => ?_)
      · refine r_iconst (v := 1) hX dX2_areDatesToldAnewSound_57 (by decide) ?_
        exact r_zret hX hE dX2_areDatesToldAnewSound_58 (mB_n (Or.inr rfl)) (Nat.le_of_ble_eq_true rfl) (Nat.le_of_ble_eq_true rfl) ⟨_, K2, (Or.inr rfl), hK2, rfl, rfl⟩
      · have hj1 : j1 < 4 := mlt (by first | rfl | decide) (by decide) hj1e c4
        refine r_iconst (v := 0) hX dX2_areDatesToldAnewSound_11 (by decide) ?_
        refine r_istore_n hX dX2_areDatesToldAnewSound_12 rfl (by decide) rfl ?_
        have L13 : ∀ (N7 j5 : Nat), 4 - j5 < N7 → j5 ≤ 4 → ∀ K6 : mK, K6.1 = K.1 → mV X 13 [(0, some (.ref (ad 0))), (1, some (.int (nI j1))), (2, some (.int (nI j5)))] [] (mWd ad cs K6 rest) 0 0 := by
          intro N7
          induction N7 with
          | zero => intro j5; omega
          | succ N7 ih13 =>
            intro j5 hN13 hj5e K6 hK6
            refine r_iload_n hX dX2_areDatesToldAnewSound_13 rfl rfl ?_
            refine r_aload_n hX dX2_areDatesToldAnewSound_14 rfl rfl ?_
            refine r_get hX kf_X2_9 0 rfl rfl dX2_areDatesToldAnewSound_15 ?_
            refine r_alen (v := nI 4) hX 1 0 rfl rfl rfl dX2_areDatesToldAnewSound_18 ?_
            refine r_icmp_ge (tgt := 51) hX dX2_areDatesToldAnewSound_19 (by decide) (fun c8 => ?_) (fun c8 => ?_)
            · refine r_iinc hX dX2_areDatesToldAnewSound_51 rfl (by decide) rfl ?_
              refine r_goto (tgt := 2) hX dX2_areDatesToldAnewSound_54 (by decide) ?_
              exact r_loc (k' := 0) (n' := 0) (by exact ⟨rfl, nI_inc' _, trivial⟩) (by decide) (by decide) (ih2 (j1 + 1) (by omega) (by omega) _ hK6)
            · have hj5 : j5 < 4 := mlt (by first | rfl | decide) (by decide) hj5e c8
              refine r_aload_n hX dX2_areDatesToldAnewSound_22 rfl rfl ?_
              refine r_aload_n hX dX2_areDatesToldAnewSound_23 rfl rfl ?_
              refine r_get hX kf_X2_20 0 rfl rfl dX2_areDatesToldAnewSound_24 ?_
              refine r_iload_n hX dX2_areDatesToldAnewSound_27 rfl rfl ?_
              refine r_callS hX (c_X2_at_ok ad cs _ 3 _ 4 0 rfl (by decide) j1 hj1) ks_X2_84 rfl rfl (Nat.le_of_ble_eq_true rfl) ⟨(Nat.le_of_ble_eq_true rfl), (Nat.le_of_ble_eq_true rfl)⟩ ⟨(Nat.le_of_ble_eq_true rfl), (Nat.le_of_ble_eq_true rfl)⟩ dX2_areDatesToldAnewSound_28 (fun _ _ z => False.elim z) (fun v9 ws9 h9 => ?_)
              obtain ⟨rfl, hw9⟩ := h9
              subst ws9
              dsimp only [mPush]
              refine r_aload_n hX dX2_areDatesToldAnewSound_31 rfl rfl ?_
              refine r_get hX kf_X2_9 0 rfl rfl dX2_areDatesToldAnewSound_32 ?_
              refine r_iload_n hX dX2_areDatesToldAnewSound_35 rfl rfl ?_
              refine r_iald hX 1 0 rfl rfl (vp_in_nI hj5 (by decide)) dX2_areDatesToldAnewSound_36 ?_
              refine r_callV hX (c_X2_isToldAnewSound _ _ _ _ j1 (by omega) _) kv_X2_366 0 rfl rfl rfl rfl (Nat.le_of_ble_eq_true rfl) ⟨(Nat.le_of_ble_eq_true rfl), (Nat.le_of_ble_eq_true rfl)⟩ ⟨(Nat.le_of_ble_eq_true rfl), (Nat.le_of_ble_eq_true rfl)⟩ dX2_areDatesToldAnewSound_37 (fun _ _ z => False.elim z) (fun v9 ws9 h11 => ?_)
              obtain ⟨r13, K14, br13, hK14, rfl, hw9⟩ := h11
              subst ws9
              dsimp only [mPush]
              refine r_if_ne (tgt := 45) hX dX2_areDatesToldAnewSound_40 (by decide) (fun c15 => ?_) (fun c15 => ?_)
              · refine r_iinc hX dX2_areDatesToldAnewSound_45 rfl (by decide) rfl ?_
                refine r_goto (tgt := 13) hX dX2_areDatesToldAnewSound_48 (by decide) ?_
                exact r_loc (k' := 0) (n' := 0) (by exact ⟨rfl, rfl, nI_inc' _, trivial⟩) (by decide) (by decide) (ih13 (j5 + 1) (by omega) (by omega) _ (hK14.trans hK6))
              · refine r_iconst (v := 0) hX dX2_areDatesToldAnewSound_43 (by decide) ?_
                exact r_zret hX hE dX2_areDatesToldAnewSound_44 (mB_n (Or.inl rfl)) (Nat.le_of_ble_eq_true rfl) (Nat.le_of_ble_eq_true rfl) ⟨_, K14, (Or.inl rfl), (hK14.trans hK6), rfl, rfl⟩
        exact r_loc (k' := 0) (n' := 0) (by exact ⟨rfl, rfl, rfl, trivial⟩) (by decide) (by decide) (L13 (4 + 1) 0 (by omega) (by omega) _ hK2)
  exact r_loc (k' := 0) (n' := 0) (by exact ⟨rfl, rfl, trivial⟩) (by decide) (by decide) (L2 (4 + 1) 0 (by omega) (by omega) _ rfl)
theorem dX2_arePairsSound_0 : decode cX2_arePairsSound 0 = .ok (.iconst 0, 1) := by decide +kernel
theorem dX2_arePairsSound_1 : decode cX2_arePairsSound 1 = .ok (.istore_n 1, 1) := by decide +kernel
theorem dX2_arePairsSound_2 : decode cX2_arePairsSound 2 = .ok (.iload_n 1, 1) := by decide +kernel
theorem dX2_arePairsSound_3 : decode cX2_arePairsSound 3 = .ok (.aload_n 0, 1) := by decide +kernel
theorem dX2_arePairsSound_4 : decode cX2_arePairsSound 4 = .ok (.getfield 20, 3) := by decide +kernel
theorem dX2_arePairsSound_7 : decode cX2_arePairsSound 7 = .ok (.arraylength, 1) := by decide +kernel
theorem dX2_arePairsSound_8 : decode cX2_arePairsSound 8 = .ok (.if_icmp .ge 50, 3) := by decide +kernel
theorem dX2_arePairsSound_11 : decode cX2_arePairsSound 11 = .ok (.iconst 0, 1) := by decide +kernel
theorem dX2_arePairsSound_12 : decode cX2_arePairsSound 12 = .ok (.istore_n 2, 1) := by decide +kernel
theorem dX2_arePairsSound_13 : decode cX2_arePairsSound 13 = .ok (.iload_n 2, 1) := by decide +kernel
theorem dX2_arePairsSound_14 : decode cX2_arePairsSound 14 = .ok (.aload_n 0, 1) := by decide +kernel
theorem dX2_arePairsSound_15 : decode cX2_arePairsSound 15 = .ok (.getfield 20, 3) := by decide +kernel
theorem dX2_arePairsSound_18 : decode cX2_arePairsSound 18 = .ok (.arraylength, 1) := by decide +kernel
theorem dX2_arePairsSound_19 : decode cX2_arePairsSound 19 = .ok (.if_icmp .ge 33, 3) := by decide +kernel
theorem dX2_arePairsSound_22 : decode cX2_arePairsSound 22 = .ok (.aload_n 0, 1) := by decide +kernel
theorem dX2_arePairsSound_23 : decode cX2_arePairsSound 23 = .ok (.getfield 20, 3) := by decide +kernel
theorem dX2_arePairsSound_26 : decode cX2_arePairsSound 26 = .ok (.iload_n 1, 1) := by decide +kernel
theorem dX2_arePairsSound_27 : decode cX2_arePairsSound 27 = .ok (.invokestatic 84, 3) := by decide +kernel
theorem dX2_arePairsSound_30 : decode cX2_arePairsSound 30 = .ok (.aload_n 0, 1) := by decide +kernel
theorem dX2_arePairsSound_31 : decode cX2_arePairsSound 31 = .ok (.getfield 20, 3) := by decide +kernel
theorem dX2_arePairsSound_34 : decode cX2_arePairsSound 34 = .ok (.iload_n 2, 1) := by decide +kernel
theorem dX2_arePairsSound_35 : decode cX2_arePairsSound 35 = .ok (.invokestatic 84, 3) := by decide +kernel
theorem dX2_arePairsSound_38 : decode cX2_arePairsSound 38 = .ok (.invokestatic 370, 3) := by decide +kernel
theorem dX2_arePairsSound_41 : decode cX2_arePairsSound 41 = .ok (.ifCond .ne 5, 3) := by decide +kernel
theorem dX2_arePairsSound_44 : decode cX2_arePairsSound 44 = .ok (.iconst 0, 1) := by decide +kernel
theorem dX2_arePairsSound_45 : decode cX2_arePairsSound 45 = .ok (.ireturn, 1) := by decide +kernel
theorem dX2_arePairsSound_46 : decode cX2_arePairsSound 46 = .ok (.iinc 2 1, 3) := by decide +kernel
theorem dX2_arePairsSound_49 : decode cX2_arePairsSound 49 = .ok (.goto (-36), 3) := by decide +kernel
theorem dX2_arePairsSound_52 : decode cX2_arePairsSound 52 = .ok (.iinc 1 1, 3) := by decide +kernel
theorem dX2_arePairsSound_55 : decode cX2_arePairsSound 55 = .ok (.goto (-53), 3) := by decide +kernel
theorem dX2_arePairsSound_58 : decode cX2_arePairsSound 58 = .ok (.iconst 1, 1) := by decide +kernel
theorem dX2_arePairsSound_59 : decode cX2_arePairsSound 59 = .ok (.ireturn, 1) := by decide +kernel
set_option maxHeartbeats 4000000 in
set_option maxRecDepth 20000 in
theorem c_X2_arePairsSound (ad : Nat → Nat) (cs : ClassId × ClassId × ClassId) (K : mK) (rest : va_W) : mCt (mTy cs) yX2_arePairsSound cX2_arePairsSound 3 (some .boolean) ⟨4, 0, 0, 90⟩ [.ref (ad 0)] (mWd ad cs K rest) (mWb ad cs K rest) mNo := by
  refine mCt.of (by decide +kernel) (Nat.le_of_ble_eq_true rfl) (fun X hX hE => ?_)
  have hX : mOK X RX2 cX2_arePairsSound 3 ⟨4, 0, 0, 90⟩ [] (mTy cs) := hX
  refine r_iconst (v := 0) hX dX2_arePairsSound_0 (by decide) ?_
  refine r_istore_n hX dX2_arePairsSound_1 rfl (by decide) rfl ?_
  have L2 : ∀ (N3 j1 : Nat), 4 - j1 < N3 → j1 ≤ 4 → ∀ K2 : mK, K2.1 = K.1 → mV X 2 [(0, some (.ref (ad 0))), (1, some (.int (nI j1)))] [] (mWd ad cs K2 rest) 0 0 := by
    intro N3
    induction N3 with
    | zero => intro j1; omega
    | succ N3 ih2 =>
      intro j1 hN2 hj1e K2 hK2
      refine r_iload_n hX dX2_arePairsSound_2 rfl rfl ?_
      refine r_aload_n hX dX2_arePairsSound_3 rfl rfl ?_
      refine r_get hX kf_X2_20 0 rfl rfl dX2_arePairsSound_4 ?_
      refine r_alen (v := nI 4) hX 3 2 rfl rfl rfl dX2_arePairsSound_7 ?_
      refine r_icmp_ge (tgt := 58) hX dX2_arePairsSound_8 (by decide) (fun c4 => ?_) (fun c4 => ?_)
      · refine r_iconst (v := 1) hX dX2_arePairsSound_58 (by decide) ?_
        exact r_zret hX hE dX2_arePairsSound_59 (mB_n (Or.inr rfl)) (Nat.le_of_ble_eq_true rfl) (Nat.le_of_ble_eq_true rfl) ⟨_, K2, (Or.inr rfl), hK2, rfl, rfl⟩
      · have hj1 : j1 < 4 := mlt (by first | rfl | decide) (by decide) hj1e c4
        refine r_iconst (v := 0) hX dX2_arePairsSound_11 (by decide) ?_
        refine r_istore_n hX dX2_arePairsSound_12 rfl (by decide) rfl ?_
        have L13 : ∀ (N7 j5 : Nat), 4 - j5 < N7 → j5 ≤ 4 → ∀ K6 : mK, K6.1 = K.1 → mV X 13 [(0, some (.ref (ad 0))), (1, some (.int (nI j1))), (2, some (.int (nI j5)))] [] (mWd ad cs K6 rest) 0 0 := by
          intro N7
          induction N7 with
          | zero => intro j5; omega
          | succ N7 ih13 =>
            intro j5 hN13 hj5e K6 hK6
            refine r_iload_n hX dX2_arePairsSound_13 rfl rfl ?_
            refine r_aload_n hX dX2_arePairsSound_14 rfl rfl ?_
            refine r_get hX kf_X2_20 0 rfl rfl dX2_arePairsSound_15 ?_
            refine r_alen (v := nI 4) hX 3 2 rfl rfl rfl dX2_arePairsSound_18 ?_
            refine r_icmp_ge (tgt := 52) hX dX2_arePairsSound_19 (by decide) (fun c8 => ?_) (fun c8 => ?_)
            · refine r_iinc hX dX2_arePairsSound_52 rfl (by decide) rfl ?_
              refine r_goto (tgt := 2) hX dX2_arePairsSound_55 (by decide) ?_
              exact r_loc (k' := 0) (n' := 0) (by exact ⟨rfl, nI_inc' _, trivial⟩) (by decide) (by decide) (ih2 (j1 + 1) (by omega) (by omega) _ hK6)
            · have hj5 : j5 < 4 := mlt (by first | rfl | decide) (by decide) hj5e c8
              refine r_aload_n hX dX2_arePairsSound_22 rfl rfl ?_
              refine r_get hX kf_X2_20 0 rfl rfl dX2_arePairsSound_23 ?_
              refine r_iload_n hX dX2_arePairsSound_26 rfl rfl ?_
              refine r_callS hX (c_X2_at_ok ad cs _ 3 _ 4 0 rfl (by decide) j1 hj1) ks_X2_84 rfl rfl (Nat.le_of_ble_eq_true rfl) ⟨(Nat.le_of_ble_eq_true rfl), (Nat.le_of_ble_eq_true rfl)⟩ ⟨(Nat.le_of_ble_eq_true rfl), (Nat.le_of_ble_eq_true rfl)⟩ dX2_arePairsSound_27 (fun _ _ z => False.elim z) (fun v9 ws9 h9 => ?_)
              obtain ⟨rfl, hw9⟩ := h9
              subst ws9
              dsimp only [mPush]
              refine r_aload_n hX dX2_arePairsSound_30 rfl rfl ?_
              refine r_get hX kf_X2_20 0 rfl rfl dX2_arePairsSound_31 ?_
              refine r_iload_n hX dX2_arePairsSound_34 rfl rfl ?_
              refine r_callS hX (c_X2_at_ok ad cs _ 3 _ 4 0 rfl (by decide) j5 hj5) ks_X2_84 rfl rfl (Nat.le_of_ble_eq_true rfl) ⟨(Nat.le_of_ble_eq_true rfl), (Nat.le_of_ble_eq_true rfl)⟩ ⟨(Nat.le_of_ble_eq_true rfl), (Nat.le_of_ble_eq_true rfl)⟩ dX2_arePairsSound_35 (fun _ _ z => False.elim z) (fun v9 ws9 h11 => ?_)
              obtain ⟨rfl, hw9⟩ := h11
              subst ws9
              dsimp only [mPush]
              refine r_callS hX (c_X2_isPairSound _ _ (j1 + 5) _ _ _ _ (mWd_loc (d := j1) (by omega)) (j5 + 5) _ _ _ _ (mWd_loc (d := j5) (by omega))) ks_X2_370 rfl rfl (Nat.le_of_ble_eq_true rfl) ⟨(Nat.le_of_ble_eq_true rfl), (Nat.le_of_ble_eq_true rfl)⟩ ⟨(Nat.le_of_ble_eq_true rfl), (Nat.le_of_ble_eq_true rfl)⟩ dX2_arePairsSound_38 (fun _ _ z => False.elim z) (fun v9 ws9 h13 => ?_)
              obtain ⟨r15, br15, rfl, hw9⟩ := h13
              subst ws9
              dsimp only [mPush]
              refine r_if_ne (tgt := 46) hX dX2_arePairsSound_41 (by decide) (fun c16 => ?_) (fun c16 => ?_)
              · refine r_iinc hX dX2_arePairsSound_46 rfl (by decide) rfl ?_
                refine r_goto (tgt := 13) hX dX2_arePairsSound_49 (by decide) ?_
                exact r_loc (k' := 0) (n' := 0) (by exact ⟨rfl, rfl, nI_inc' _, trivial⟩) (by decide) (by decide) (ih13 (j5 + 1) (by omega) (by omega) _ hK6)
              · refine r_iconst (v := 0) hX dX2_arePairsSound_44 (by decide) ?_
                exact r_zret hX hE dX2_arePairsSound_45 (mB_n (Or.inl rfl)) (Nat.le_of_ble_eq_true rfl) (Nat.le_of_ble_eq_true rfl) ⟨_, K6, (Or.inl rfl), hK6, rfl, rfl⟩
        exact r_loc (k' := 0) (n' := 0) (by exact ⟨rfl, rfl, rfl, trivial⟩) (by decide) (by decide) (L13 (4 + 1) 0 (by omega) (by omega) _ hK2)
  exact r_loc (k' := 0) (n' := 0) (by exact ⟨rfl, rfl, trivial⟩) (by decide) (by decide) (L2 (4 + 1) 0 (by omega) (by omega) _ rfl)
theorem dX2_areStrikesSound_0 : decode cX2_areStrikesSound 0 = .ok (.iconst 0, 1) := by decide +kernel
theorem dX2_areStrikesSound_1 : decode cX2_areStrikesSound 1 = .ok (.istore_n 1, 1) := by decide +kernel
theorem dX2_areStrikesSound_2 : decode cX2_areStrikesSound 2 = .ok (.iload_n 1, 1) := by decide +kernel
theorem dX2_areStrikesSound_3 : decode cX2_areStrikesSound 3 = .ok (.aload_n 0, 1) := by decide +kernel
theorem dX2_areStrikesSound_4 : decode cX2_areStrikesSound 4 = .ok (.getfield 20, 3) := by decide +kernel
theorem dX2_areStrikesSound_7 : decode cX2_areStrikesSound 7 = .ok (.arraylength, 1) := by decide +kernel
theorem dX2_areStrikesSound_8 : decode cX2_areStrikesSound 8 = .ok (.if_icmp .ge 84, 3) := by decide +kernel
theorem dX2_areStrikesSound_11 : decode cX2_areStrikesSound 11 = .ok (.aload_n 0, 1) := by decide +kernel
theorem dX2_areStrikesSound_12 : decode cX2_areStrikesSound 12 = .ok (.getfield 20, 3) := by decide +kernel
theorem dX2_areStrikesSound_15 : decode cX2_areStrikesSound 15 = .ok (.iload_n 1, 1) := by decide +kernel
theorem dX2_areStrikesSound_16 : decode cX2_areStrikesSound 16 = .ok (.invokestatic 84, 3) := by decide +kernel
theorem dX2_areStrikesSound_19 : decode cX2_areStrikesSound 19 = .ok (.astore_n 2, 1) := by decide +kernel
theorem dX2_areStrikesSound_20 : decode cX2_areStrikesSound 20 = .ok (.aload_n 0, 1) := by decide +kernel
theorem dX2_areStrikesSound_21 : decode cX2_areStrikesSound 21 = .ok (.getfield 31, 3) := by decide +kernel
theorem dX2_areStrikesSound_24 : decode cX2_areStrikesSound 24 = .ok (.aload_n 2, 1) := by decide +kernel
theorem dX2_areStrikesSound_25 : decode cX2_areStrikesSound 25 = .ok (.invokevirtual 320, 3) := by decide +kernel
theorem dX2_areStrikesSound_28 : decode cX2_areStrikesSound 28 = .ok (.i2l, 1) := by decide +kernel
theorem dX2_areStrikesSound_29 : decode cX2_areStrikesSound 29 = .ok (.aload_n 2, 1) := by decide +kernel
theorem dX2_areStrikesSound_30 : decode cX2_areStrikesSound 30 = .ok (.getfield 172, 3) := by decide +kernel
theorem dX2_areStrikesSound_33 : decode cX2_areStrikesSound 33 = .ok (.aload_n 2, 1) := by decide +kernel
theorem dX2_areStrikesSound_34 : decode cX2_areStrikesSound 34 = .ok (.getfield 158, 3) := by decide +kernel
theorem dX2_areStrikesSound_37 : decode cX2_areStrikesSound 37 = .ok (.invokevirtual 270, 3) := by decide +kernel
theorem dX2_areStrikesSound_40 : decode cX2_areStrikesSound 40 = .ok (.aload_n 0, 1) := by decide +kernel
theorem dX2_areStrikesSound_41 : decode cX2_areStrikesSound 41 = .ok (.getfield 27, 3) := by decide +kernel
theorem dX2_areStrikesSound_44 : decode cX2_areStrikesSound 44 = .ok (.aload_n 2, 1) := by decide +kernel
theorem dX2_areStrikesSound_45 : decode cX2_areStrikesSound 45 = .ok (.invokevirtual 190, 3) := by decide +kernel
theorem dX2_areStrikesSound_48 : decode cX2_areStrikesSound 48 = .ok (.aload_n 0, 1) := by decide +kernel
theorem dX2_areStrikesSound_49 : decode cX2_areStrikesSound 49 = .ok (.getfield 31, 3) := by decide +kernel
theorem dX2_areStrikesSound_52 : decode cX2_areStrikesSound 52 = .ok (.getfield 146, 3) := by decide +kernel
theorem dX2_areStrikesSound_55 : decode cX2_areStrikesSound 55 = .ok (.ladd, 1) := by decide +kernel
theorem dX2_areStrikesSound_56 : decode cX2_areStrikesSound 56 = .ok (.aload_n 0, 1) := by decide +kernel
theorem dX2_areStrikesSound_57 : decode cX2_areStrikesSound 57 = .ok (.getfield 31, 3) := by decide +kernel
theorem dX2_areStrikesSound_60 : decode cX2_areStrikesSound 60 = .ok (.getfield 172, 3) := by decide +kernel
theorem dX2_areStrikesSound_63 : decode cX2_areStrikesSound 63 = .ok (.aload_n 0, 1) := by decide +kernel
theorem dX2_areStrikesSound_64 : decode cX2_areStrikesSound 64 = .ok (.getfield 31, 3) := by decide +kernel
theorem dX2_areStrikesSound_67 : decode cX2_areStrikesSound 67 = .ok (.getfield 158, 3) := by decide +kernel
theorem dX2_areStrikesSound_70 : decode cX2_areStrikesSound 70 = .ok (.invokevirtual 270, 3) := by decide +kernel
theorem dX2_areStrikesSound_73 : decode cX2_areStrikesSound 73 = .ok (.aload_n 0, 1) := by decide +kernel
theorem dX2_areStrikesSound_74 : decode cX2_areStrikesSound 74 = .ok (.getfield 27, 3) := by decide +kernel
theorem dX2_areStrikesSound_77 : decode cX2_areStrikesSound 77 = .ok (.aload_n 2, 1) := by decide +kernel
theorem dX2_areStrikesSound_78 : decode cX2_areStrikesSound 78 = .ok (.invokevirtual 363, 3) := by decide +kernel
theorem dX2_areStrikesSound_81 : decode cX2_areStrikesSound 81 = .ok (.ifCond .ne 5, 3) := by decide +kernel
theorem dX2_areStrikesSound_84 : decode cX2_areStrikesSound 84 = .ok (.iconst 0, 1) := by decide +kernel
theorem dX2_areStrikesSound_85 : decode cX2_areStrikesSound 85 = .ok (.ireturn, 1) := by decide +kernel
theorem dX2_areStrikesSound_86 : decode cX2_areStrikesSound 86 = .ok (.iinc 1 1, 3) := by decide +kernel
theorem dX2_areStrikesSound_89 : decode cX2_areStrikesSound 89 = .ok (.goto (-87), 3) := by decide +kernel
theorem dX2_areStrikesSound_92 : decode cX2_areStrikesSound 92 = .ok (.iconst 1, 1) := by decide +kernel
theorem dX2_areStrikesSound_93 : decode cX2_areStrikesSound 93 = .ok (.ireturn, 1) := by decide +kernel
set_option maxHeartbeats 4000000 in
set_option maxRecDepth 20000 in
theorem c_X2_areStrikesSound (ad : Nat → Nat) (cs : ClassId × ClassId × ClassId) (K : mK) (rest : va_W) : mCt (mTy cs) yX2_areStrikesSound cX2_areStrikesSound 3 (some .boolean) ⟨3, 0, 0, 65⟩ [.ref (ad 0)] (mWd ad cs K rest) (mWb ad cs K rest) mNo := by
  refine mCt.of (by decide +kernel) (Nat.le_of_ble_eq_true rfl) (fun X hX hE => ?_)
  have hX : mOK X RX2 cX2_areStrikesSound 3 ⟨3, 0, 0, 65⟩ [] (mTy cs) := hX
  refine r_iconst (v := 0) hX dX2_areStrikesSound_0 (by decide) ?_
  refine r_istore_n hX dX2_areStrikesSound_1 rfl (by decide) rfl ?_
  have L2 : ∀ (N3 j1 : Nat), 4 - j1 < N3 → j1 ≤ 4 → ∀ K2 : mK, K2.1 = K.1 → mV X 2 [(0, some (.ref (ad 0))), (1, some (.int (nI j1)))] [] (mWd ad cs K2 rest) 0 0 := by
    intro N3
    induction N3 with
    | zero => intro j1; omega
    | succ N3 ih2 =>
      intro j1 hN2 hj1e K2 hK2
      refine r_iload_n hX dX2_areStrikesSound_2 rfl rfl ?_
      refine r_aload_n hX dX2_areStrikesSound_3 rfl rfl ?_
      refine r_get hX kf_X2_20 0 rfl rfl dX2_areStrikesSound_4 ?_
      refine r_alen (v := nI 4) hX 3 2 rfl rfl rfl dX2_areStrikesSound_7 ?_
      refine r_icmp_ge (tgt := 92) hX dX2_areStrikesSound_8 (by decide) (fun c4 => ?_) (fun c4 => ?_)
      · refine r_iconst (v := 1) hX dX2_areStrikesSound_92 (by decide) ?_
        exact r_zret hX hE dX2_areStrikesSound_93 (mB_n (Or.inr rfl)) (Nat.le_of_ble_eq_true rfl) (Nat.le_of_ble_eq_true rfl) ⟨_, K2, (Or.inr rfl), hK2, rfl, rfl⟩
      · have hj1 : j1 < 4 := mlt (by first | rfl | decide) (by decide) hj1e c4
        refine r_aload_n hX dX2_areStrikesSound_11 rfl rfl ?_
        refine r_get hX kf_X2_20 0 rfl rfl dX2_areStrikesSound_12 ?_
        refine r_iload_n hX dX2_areStrikesSound_15 rfl rfl ?_
        refine r_callS hX (c_X2_at_ok ad cs _ 3 _ 4 0 rfl (by decide) j1 hj1) ks_X2_84 rfl rfl (Nat.le_of_ble_eq_true rfl) ⟨(Nat.le_of_ble_eq_true rfl), (Nat.le_of_ble_eq_true rfl)⟩ ⟨(Nat.le_of_ble_eq_true rfl), (Nat.le_of_ble_eq_true rfl)⟩ dX2_areStrikesSound_16 (fun _ _ z => False.elim z) (fun v9 ws9 h5 => ?_)
        obtain ⟨rfl, hw9⟩ := h5
        subst ws9
        dsimp only [mPush]
        refine r_astore_n hX dX2_areStrikesSound_19 rfl (by decide) rfl ?_
        refine r_aload_n hX dX2_areStrikesSound_20 rfl rfl ?_
        refine r_get hX kf_X2_31 0 rfl rfl dX2_areStrikesSound_21 ?_
        refine r_aload_n hX dX2_areStrikesSound_24 rfl rfl ?_
        refine r_callV hX (c_X1_secondOfDay _ _ (j1 + 5) _ _ _ _ (mWd_loc (d := j1) (by omega))) kv_X2_320 (j1 + 5) (mWd_loc (d := j1) (by omega)) rfl rfl rfl (Nat.le_of_ble_eq_true rfl) ⟨(Nat.le_of_ble_eq_true rfl), (Nat.le_of_ble_eq_true rfl)⟩ ⟨(Nat.le_of_ble_eq_true rfl), (Nat.le_of_ble_eq_true rfl)⟩ dX2_areStrikesSound_25 (fun _ _ z => False.elim z) (fun v9 ws9 h7 => ?_)
        obtain ⟨r9, rfl, hw9⟩ := h7
        subst ws9
        dsimp only [mPush]
        refine r_i2l hX dX2_areStrikesSound_28 ?_
        refine r_aload_n hX dX2_areStrikesSound_29 rfl rfl ?_
        refine r_getN hX kg_X2_172 (j1 + 5) (mWd_loc (d := j1) (by omega)) rfl dX2_areStrikesSound_30 ?_
        refine r_aload_n hX dX2_areStrikesSound_33 rfl rfl ?_
        refine r_getN hX kg_X2_158 (j1 + 5) (mWd_loc (d := j1) (by omega)) rfl dX2_areStrikesSound_34 ?_
        refine r_callV hX (c_X1_tell _ _ 13 _ _ _ _ (mWd_loc (d := 8) (by decide)) _ _ _) kv_X2_270 13 (mWd_loc (d := 8) (by decide)) rfl rfl rfl (Nat.le_of_ble_eq_true rfl) ⟨(Nat.le_of_ble_eq_true rfl), (Nat.le_of_ble_eq_true rfl)⟩ ⟨(Nat.le_of_ble_eq_true rfl), (Nat.le_of_ble_eq_true rfl)⟩ dX2_areStrikesSound_37 (fun _ _ z => False.elim z) (fun v9 ws9 h10 => ?_)
        obtain ⟨rfl, hw9⟩ := h10
        subst ws9
        dsimp only [mPush]
        rw [mWd_set (d := 8) (by decide)]
        refine r_aload_n hX dX2_areStrikesSound_40 rfl rfl ?_
        refine r_get hX kf_X2_27 0 rfl rfl dX2_areStrikesSound_41 ?_
        refine r_aload_n hX dX2_areStrikesSound_44 rfl rfl ?_
        refine r_callV hX (c_X1_beginOfDay _ _ (j1 + 5) _ _ _ _ (mWd_loc (d := j1) (by omega))) kv_X2_190 (j1 + 5) (mWd_loc (d := j1) (by omega)) rfl rfl rfl (Nat.le_of_ble_eq_true rfl) ⟨(Nat.le_of_ble_eq_true rfl), (Nat.le_of_ble_eq_true rfl)⟩ ⟨(Nat.le_of_ble_eq_true rfl), (Nat.le_of_ble_eq_true rfl)⟩ dX2_areStrikesSound_45 (fun _ _ z => False.elim z) (fun v9 ws9 h12 => ?_)
        obtain ⟨r14, rfl, hw9⟩ := h12
        subst ws9
        dsimp only [mPush]
        refine r_aload_n hX dX2_areStrikesSound_48 rfl rfl ?_
        refine r_get hX kf_X2_31 0 rfl rfl dX2_areStrikesSound_49 ?_
        refine r_getN hX kg_X2_146 13 (mWd_loc (d := 8) (by decide)) rfl dX2_areStrikesSound_52 ?_
        refine r_ladd hX dX2_areStrikesSound_55 ?_
        refine r_aload_n hX dX2_areStrikesSound_56 rfl rfl ?_
        refine r_get hX kf_X2_31 0 rfl rfl dX2_areStrikesSound_57 ?_
        refine r_getN hX kg_X2_172 13 (mWd_loc (d := 8) (by decide)) rfl dX2_areStrikesSound_60 ?_
        refine r_aload_n hX dX2_areStrikesSound_63 rfl rfl ?_
        refine r_get hX kf_X2_31 0 rfl rfl dX2_areStrikesSound_64 ?_
        refine r_getN hX kg_X2_158 13 (mWd_loc (d := 8) (by decide)) rfl dX2_areStrikesSound_67 ?_
        refine r_callV hX (c_X1_tell _ _ 12 _ _ _ _ (mWd_loc (d := 7) (by decide)) _ _ _) kv_X2_270 12 (mWd_loc (d := 7) (by decide)) rfl rfl rfl (Nat.le_of_ble_eq_true rfl) ⟨(Nat.le_of_ble_eq_true rfl), (Nat.le_of_ble_eq_true rfl)⟩ ⟨(Nat.le_of_ble_eq_true rfl), (Nat.le_of_ble_eq_true rfl)⟩ dX2_areStrikesSound_70 (fun _ _ z => False.elim z) (fun v9 ws9 h15 => ?_)
        obtain ⟨rfl, hw9⟩ := h15
        subst ws9
        dsimp only [mPush]
        rw [mWd_set (d := 7) (by decide)]
        refine r_aload_n hX dX2_areStrikesSound_73 rfl rfl ?_
        refine r_get hX kf_X2_27 0 rfl rfl dX2_areStrikesSound_74 ?_
        refine r_aload_n hX dX2_areStrikesSound_77 rfl rfl ?_
        refine r_callV hX (c_X1_isSame _ _ 12 _ _ _ _ (mWd_loc (d := 7) (by decide)) (j1 + 5) _ _ _ _ (mWd_loc (d := j1) (by omega))) kv_X2_363 12 (mWd_loc (d := 7) (by decide)) rfl rfl rfl (Nat.le_of_ble_eq_true rfl) ⟨(Nat.le_of_ble_eq_true rfl), (Nat.le_of_ble_eq_true rfl)⟩ ⟨(Nat.le_of_ble_eq_true rfl), (Nat.le_of_ble_eq_true rfl)⟩ dX2_areStrikesSound_78 (fun _ _ z => False.elim z) (fun v9 ws9 h17 => ?_)
        obtain ⟨r19, br19, rfl, hw9⟩ := h17
        subst ws9
        dsimp only [mPush]
        refine r_if_ne (tgt := 86) hX dX2_areStrikesSound_81 (by decide) (fun c20 => ?_) (fun c20 => ?_)
        · refine r_iinc hX dX2_areStrikesSound_86 rfl (by decide) rfl ?_
          refine r_goto (tgt := 2) hX dX2_areStrikesSound_89 (by decide) ?_
          exact r_loc (k' := 0) (n' := 0) (by exact ⟨rfl, nI_inc' _, trivial⟩) (by decide) (by decide) (ih2 (j1 + 1) (by omega) (by omega) _ hK2)
        · refine r_iconst (v := 0) hX dX2_areStrikesSound_84 (by decide) ?_
          exact r_zret hX hE dX2_areStrikesSound_85 (mB_n (Or.inl rfl)) (Nat.le_of_ble_eq_true rfl) (Nat.le_of_ble_eq_true rfl) ⟨_, (mKL (mKL K2 8 _) 7 _), (Or.inl rfl), hK2, rfl, rfl⟩
  exact r_loc (k' := 0) (n' := 0) (by exact ⟨rfl, rfl, trivial⟩) (by decide) (by decide) (L2 (4 + 1) 0 (by omega) (by omega) _ rfl)
theorem dX2_isSound_0 : decode cX2_isSound 0 = .ok (.aload_n 0, 1) := by decide +kernel
theorem dX2_isSound_1 : decode cX2_isSound 1 = .ok (.invokevirtual 208, 3) := by decide +kernel
theorem dX2_isSound_4 : decode cX2_isSound 4 = .ok (.ifCond .eq 28, 3) := by decide +kernel
theorem dX2_isSound_7 : decode cX2_isSound 7 = .ok (.aload_n 0, 1) := by decide +kernel
theorem dX2_isSound_8 : decode cX2_isSound 8 = .ok (.invokevirtual 212, 3) := by decide +kernel
theorem dX2_isSound_11 : decode cX2_isSound 11 = .ok (.ifCond .eq 21, 3) := by decide +kernel
theorem dX2_isSound_14 : decode cX2_isSound 14 = .ok (.aload_n 0, 1) := by decide +kernel
theorem dX2_isSound_15 : decode cX2_isSound 15 = .ok (.invokevirtual 215, 3) := by decide +kernel
theorem dX2_isSound_18 : decode cX2_isSound 18 = .ok (.ifCond .eq 14, 3) := by decide +kernel
theorem dX2_isSound_21 : decode cX2_isSound 21 = .ok (.aload_n 0, 1) := by decide +kernel
theorem dX2_isSound_22 : decode cX2_isSound 22 = .ok (.invokevirtual 218, 3) := by decide +kernel
theorem dX2_isSound_25 : decode cX2_isSound 25 = .ok (.ifCond .eq 7, 3) := by decide +kernel
theorem dX2_isSound_28 : decode cX2_isSound 28 = .ok (.iconst 1, 1) := by decide +kernel
theorem dX2_isSound_29 : decode cX2_isSound 29 = .ok (.goto 4, 3) := by decide +kernel
theorem dX2_isSound_32 : decode cX2_isSound 32 = .ok (.iconst 0, 1) := by decide +kernel
theorem dX2_isSound_33 : decode cX2_isSound 33 = .ok (.ireturn, 1) := by decide +kernel
set_option maxHeartbeats 4000000 in
set_option maxRecDepth 20000 in
theorem c_X2_isSound (ad : Nat → Nat) (cs : ClassId × ClassId × ClassId) (K : mK) (rest : va_W) : mCt (mTy cs) yX2_isSound cX2_isSound 1 (some .boolean) ⟨5, 0, 0, 112⟩ [.ref (ad 0)] (mWd ad cs K rest) (mWb ad cs K rest) mNo := by
  refine mCt.of (by decide +kernel) (Nat.le_of_ble_eq_true rfl) (fun X hX hE => ?_)
  have hX : mOK X RX2 cX2_isSound 1 ⟨5, 0, 0, 112⟩ [] (mTy cs) := hX
  refine r_aload_n hX dX2_isSound_0 rfl rfl ?_
  refine r_callV hX (c_X2_areMomentsSound _ _ _ _) kv_X2_208 0 rfl rfl rfl rfl (Nat.le_of_ble_eq_true rfl) ⟨(Nat.le_of_ble_eq_true rfl), (Nat.le_of_ble_eq_true rfl)⟩ ⟨(Nat.le_of_ble_eq_true rfl), (Nat.le_of_ble_eq_true rfl)⟩ dX2_isSound_1 (fun _ _ z => False.elim z) (fun v9 ws9 h1 => ?_)
  obtain ⟨r3, K4, br3, hK4, rfl, hw9⟩ := h1
  subst ws9
  dsimp only [mPush]
  refine r_if_eq (tgt := 32) hX dX2_isSound_4 (by decide) (fun c5 => ?_) (fun c5 => ?_)
  · refine r_iconst (v := 0) hX dX2_isSound_32 (by decide) ?_
    exact r_zret hX hE dX2_isSound_33 (mB_n (Or.inl rfl)) (Nat.le_of_ble_eq_true rfl) (Nat.le_of_ble_eq_true rfl) ⟨_, K4, (Or.inl rfl), (hK4.trans rfl), rfl, rfl⟩
  · refine r_aload_n hX dX2_isSound_7 rfl rfl ?_
    refine r_callV hX (c_X2_areDatesToldAnewSound _ _ _ _) kv_X2_212 0 rfl rfl rfl rfl (Nat.le_of_ble_eq_true rfl) ⟨(Nat.le_of_ble_eq_true rfl), (Nat.le_of_ble_eq_true rfl)⟩ ⟨(Nat.le_of_ble_eq_true rfl), (Nat.le_of_ble_eq_true rfl)⟩ dX2_isSound_8 (fun _ _ z => False.elim z) (fun v9 ws9 h6 => ?_)
    obtain ⟨r8, K9, br8, hK9, rfl, hw9⟩ := h6
    subst ws9
    dsimp only [mPush]
    refine r_if_eq (tgt := 32) hX dX2_isSound_11 (by decide) (fun c10 => ?_) (fun c10 => ?_)
    · refine r_iconst (v := 0) hX dX2_isSound_32 (by decide) ?_
      exact r_zret hX hE dX2_isSound_33 (mB_n (Or.inl rfl)) (Nat.le_of_ble_eq_true rfl) (Nat.le_of_ble_eq_true rfl) ⟨_, K9, (Or.inl rfl), (hK9.trans (hK4.trans rfl)), rfl, rfl⟩
    · refine r_aload_n hX dX2_isSound_14 rfl rfl ?_
      refine r_callV hX (c_X2_arePairsSound _ _ _ _) kv_X2_215 0 rfl rfl rfl rfl (Nat.le_of_ble_eq_true rfl) ⟨(Nat.le_of_ble_eq_true rfl), (Nat.le_of_ble_eq_true rfl)⟩ ⟨(Nat.le_of_ble_eq_true rfl), (Nat.le_of_ble_eq_true rfl)⟩ dX2_isSound_15 (fun _ _ z => False.elim z) (fun v9 ws9 h11 => ?_)
      obtain ⟨r13, K14, br13, hK14, rfl, hw9⟩ := h11
      subst ws9
      dsimp only [mPush]
      refine r_if_eq (tgt := 32) hX dX2_isSound_18 (by decide) (fun c15 => ?_) (fun c15 => ?_)
      · refine r_iconst (v := 0) hX dX2_isSound_32 (by decide) ?_
        exact r_zret hX hE dX2_isSound_33 (mB_n (Or.inl rfl)) (Nat.le_of_ble_eq_true rfl) (Nat.le_of_ble_eq_true rfl) ⟨_, K14, (Or.inl rfl), (hK14.trans (hK9.trans (hK4.trans rfl))), rfl, rfl⟩
      · refine r_aload_n hX dX2_isSound_21 rfl rfl ?_
        refine r_callV hX (c_X2_areStrikesSound _ _ _ _) kv_X2_218 0 rfl rfl rfl rfl (Nat.le_of_ble_eq_true rfl) ⟨(Nat.le_of_ble_eq_true rfl), (Nat.le_of_ble_eq_true rfl)⟩ ⟨(Nat.le_of_ble_eq_true rfl), (Nat.le_of_ble_eq_true rfl)⟩ dX2_isSound_22 (fun _ _ z => False.elim z) (fun v9 ws9 h16 => ?_)
        obtain ⟨r18, K19, br18, hK19, rfl, hw9⟩ := h16
        subst ws9
        dsimp only [mPush]
        refine r_if_eq (tgt := 32) hX dX2_isSound_25 (by decide) (fun c20 => ?_) (fun c20 => ?_)
        · refine r_iconst (v := 0) hX dX2_isSound_32 (by decide) ?_
          exact r_zret hX hE dX2_isSound_33 (mB_n (Or.inl rfl)) (Nat.le_of_ble_eq_true rfl) (Nat.le_of_ble_eq_true rfl) ⟨_, K19, (Or.inl rfl), (hK19.trans (hK14.trans (hK9.trans (hK4.trans rfl)))), rfl, rfl⟩
        · refine r_iconst (v := 1) hX dX2_isSound_28 (by decide) ?_
          refine r_goto (tgt := 33) hX dX2_isSound_29 (by decide) ?_
          exact r_zret hX hE dX2_isSound_33 (mB_n (Or.inr rfl)) (Nat.le_of_ble_eq_true rfl) (Nat.le_of_ble_eq_true rfl) ⟨_, K19, (Or.inr rfl), (hK19.trans (hK14.trans (hK9.trans (hK4.trans rfl)))), rfl, rfl⟩
end
section
/-! The class, its contracts (rows by a program of this repository). -/
theorem dX2_seconds_0 : decode cX2_seconds 0 = .ok (.iload_n 1, 1) := by decide +kernel
theorem dX2_seconds_1 : decode cX2_seconds 1 = .ok (.aload_n 0, 1) := by decide +kernel
theorem dX2_seconds_2 : decode cX2_seconds 2 = .ok (.getfield 9, 3) := by decide +kernel
theorem dX2_seconds_5 : decode cX2_seconds 5 = .ok (.arraylength, 1) := by decide +kernel
theorem dX2_seconds_6 : decode cX2_seconds 6 = .ok (.invokestatic 34, 3) := by decide +kernel
theorem dX2_seconds_9 : decode cX2_seconds 9 = .ok (.aload_n 0, 1) := by decide +kernel
theorem dX2_seconds_10 : decode cX2_seconds 10 = .ok (.getfield 9, 3) := by decide +kernel
theorem dX2_seconds_13 : decode cX2_seconds 13 = .ok (.iload_n 1, 1) := by decide +kernel
theorem dX2_seconds_14 : decode cX2_seconds 14 = .ok (.iaload, 1) := by decide +kernel
theorem dX2_seconds_15 : decode cX2_seconds 15 = .ok (.ireturn, 1) := by decide +kernel
set_option maxHeartbeats 4000000 in
set_option maxRecDepth 20000 in
theorem c_X2_seconds_ok (ad : Nat → Nat) (cs : ClassId × ClassId × ClassId) (K : mK) (rest : va_W) (j1 : Nat) (hj1 : j1 < 4) : mCt (mTy cs) yX2_seconds cX2_seconds 2 (some .int) ⟨1, 0, 0, 21⟩ [.ref (ad 0), .int (nI j1)] (mWd ad cs K rest) (fun v ws' => v = some (.int (K.1 j1)) ∧ ws' = mWd ad cs K rest) mNo := by
  refine mCt.of (by decide +kernel) (Nat.le_of_ble_eq_true rfl) (fun X hX hE => ?_)
  have hX : mOK X RX2 cX2_seconds 2 ⟨1, 0, 0, 21⟩ [] (mTy cs) := hX
  refine r_iload_n hX dX2_seconds_0 rfl rfl ?_
  refine r_aload_n hX dX2_seconds_1 rfl rfl ?_
  refine r_get hX kf_X2_9 0 rfl rfl dX2_seconds_2 ?_
  refine r_alen (v := nI 4) hX 1 0 rfl rfl rfl dX2_seconds_5 ?_
  refine r_callS hX (c_X2_requireOne_ok _ _ 4 (by decide) j1 hj1) ks_X2_34 rfl rfl (Nat.le_of_ble_eq_true rfl) ⟨(Nat.le_of_ble_eq_true rfl), (Nat.le_of_ble_eq_true rfl)⟩ ⟨(Nat.le_of_ble_eq_true rfl), (Nat.le_of_ble_eq_true rfl)⟩ dX2_seconds_6 (fun _ _ z => False.elim z) (fun v9 ws9 h1 => ?_)
  obtain ⟨rfl, hw9⟩ := h1
  subst ws9
  dsimp only [mPush]
  refine r_aload_n hX dX2_seconds_9 rfl rfl ?_
  refine r_get hX kf_X2_9 0 rfl rfl dX2_seconds_10 ?_
  refine r_iload_n hX dX2_seconds_13 rfl rfl ?_
  refine r_iald hX 1 0 rfl rfl (vp_in_nI hj1 (by decide)) dX2_seconds_14 ?_
  exact r_iret hX hE dX2_seconds_15 (Nat.le_of_ble_eq_true rfl) (Nat.le_of_ble_eq_true rfl) ⟨by rw [nI_clamp (show j1 < 2 ^ 31 by omega)], rfl⟩
set_option maxHeartbeats 4000000 in
set_option maxRecDepth 20000 in
theorem c_X2_seconds (ad : Nat → Nat) (cs : ClassId × ClassId × ClassId) (K : mK) (rest : va_W) (p0 : Int32) : mCt (mTy cs) yX2_seconds cX2_seconds 2 (some .int) ⟨7, 1, 6, 103⟩ [.ref (ad 0), .int p0] (mWd ad cs K rest) (fun v ws' => ∃ j, j < 4 ∧ p0 = nI j ∧ v = some (.int (K.1 j)) ∧ ws' = mWd ad cs K rest) (fun E ws' => E = xI ∧ ws' = mWd ad cs K rest ∧ ¬ vp_in p0 4) := by
  refine mCt.of (by decide +kernel) (Nat.le_of_ble_eq_true rfl) (fun X hX hE => ?_)
  have hX : mOK X RX2 cX2_seconds 2 ⟨7, 1, 6, 103⟩ [] (mTy cs) := hX
  refine r_iload_n hX dX2_seconds_0 rfl rfl ?_
  refine r_aload_n hX dX2_seconds_1 rfl rfl ?_
  refine r_get hX kf_X2_9 0 rfl rfl dX2_seconds_2 ?_
  refine r_alen (v := nI 4) hX 1 0 rfl rfl rfl dX2_seconds_5 ?_
  refine r_callS hX (c_X2_requireOne _ _ _ 4 (by decide)) ks_X2_34 rfl rfl (Nat.le_of_ble_eq_true rfl) ⟨(Nat.le_of_ble_eq_true rfl), (Nat.le_of_ble_eq_true rfl)⟩ ⟨(Nat.le_of_ble_eq_true rfl), (Nat.le_of_ble_eq_true rfl)⟩ dX2_seconds_6 (fun E ws9 z => r_out hX hE (Nat.le_of_ble_eq_true rfl) (Nat.le_of_ble_eq_true rfl) (z)) (fun v9 ws9 h1 => ?_)
  obtain ⟨i3, hhi3, rfl, rfl, hw9⟩ := h1
  subst ws9
  dsimp only [mPush]
  refine r_aload_n hX dX2_seconds_9 rfl rfl ?_
  refine r_get hX kf_X2_9 0 rfl rfl dX2_seconds_10 ?_
  refine r_iload_n hX dX2_seconds_13 rfl rfl ?_
  refine r_iald hX 1 0 rfl rfl (vp_in_nI hhi3 (by decide)) dX2_seconds_14 ?_
  exact r_iret hX hE dX2_seconds_15 (Nat.le_of_ble_eq_true rfl) (Nat.le_of_ble_eq_true rfl) ⟨i3, hhi3, rfl, by rw [nI_clamp (show i3 < 2 ^ 31 by omega)], rfl⟩
theorem dX2_ofMoment_0 : decode cX2_ofMoment 0 = .ok (.iload_n 1, 1) := by decide +kernel
theorem dX2_ofMoment_1 : decode cX2_ofMoment 1 = .ok (.aload_n 0, 1) := by decide +kernel
theorem dX2_ofMoment_2 : decode cX2_ofMoment 2 = .ok (.getfield 13, 3) := by decide +kernel
theorem dX2_ofMoment_5 : decode cX2_ofMoment 5 = .ok (.arraylength, 1) := by decide +kernel
theorem dX2_ofMoment_6 : decode cX2_ofMoment 6 = .ok (.invokestatic 34, 3) := by decide +kernel
theorem dX2_ofMoment_9 : decode cX2_ofMoment 9 = .ok (.iload_n 2, 1) := by decide +kernel
theorem dX2_ofMoment_10 : decode cX2_ofMoment 10 = .ok (.ifCond .eq 15, 3) := by decide +kernel
theorem dX2_ofMoment_13 : decode cX2_ofMoment 13 = .ok (.aload_n 0, 1) := by decide +kernel
theorem dX2_ofMoment_14 : decode cX2_ofMoment 14 = .ok (.getfield 13, 3) := by decide +kernel
theorem dX2_ofMoment_17 : decode cX2_ofMoment 17 = .ok (.iload_n 1, 1) := by decide +kernel
theorem dX2_ofMoment_18 : decode cX2_ofMoment 18 = .ok (.laload, 1) := by decide +kernel
theorem dX2_ofMoment_19 : decode cX2_ofMoment 19 = .ok (.invokestatic 92, 3) := by decide +kernel
theorem dX2_ofMoment_22 : decode cX2_ofMoment 22 = .ok (.goto 13, 3) := by decide +kernel
theorem dX2_ofMoment_25 : decode cX2_ofMoment 25 = .ok (.aload_n 0, 1) := by decide +kernel
theorem dX2_ofMoment_26 : decode cX2_ofMoment 26 = .ok (.getfield 13, 3) := by decide +kernel
theorem dX2_ofMoment_29 : decode cX2_ofMoment 29 = .ok (.iload_n 1, 1) := by decide +kernel
theorem dX2_ofMoment_30 : decode cX2_ofMoment 30 = .ok (.laload, 1) := by decide +kernel
theorem dX2_ofMoment_31 : decode cX2_ofMoment 31 = .ok (.invokestatic 96, 3) := by decide +kernel
theorem dX2_ofMoment_34 : decode cX2_ofMoment 34 = .ok (.l2i, 1) := by decide +kernel
theorem dX2_ofMoment_35 : decode cX2_ofMoment 35 = .ok (.ireturn, 1) := by decide +kernel
set_option maxHeartbeats 4000000 in
set_option maxRecDepth 20000 in
theorem c_X2_ofMoment_ok (ad : Nat → Nat) (cs : ClassId × ClassId × ClassId) (K : mK) (rest : va_W) (j0 : Nat) (hj0 : j0 < 4) (p1 : Int32) : mCt (mTy cs) yX2_ofMoment cX2_ofMoment 3 (some .int) ⟨2, 0, 0, 46⟩ [.ref (ad 0), .int (nI j0), .int p1] (mWd ad cs K rest) (mWi ad cs K rest) mNo := by
  refine mCt.of (by decide +kernel) (Nat.le_of_ble_eq_true rfl) (fun X hX hE => ?_)
  have hX : mOK X RX2 cX2_ofMoment 3 ⟨2, 0, 0, 46⟩ [] (mTy cs) := hX
  refine r_iload_n hX dX2_ofMoment_0 rfl rfl ?_
  refine r_aload_n hX dX2_ofMoment_1 rfl rfl ?_
  refine r_get hX kf_X2_13 0 rfl rfl dX2_ofMoment_2 ?_
  refine r_alen (v := nI 4) hX 2 1 rfl rfl rfl dX2_ofMoment_5 ?_
  refine r_callS hX (c_X2_requireOne_ok _ _ 4 (by decide) j0 hj0) ks_X2_34 rfl rfl (Nat.le_of_ble_eq_true rfl) ⟨(Nat.le_of_ble_eq_true rfl), (Nat.le_of_ble_eq_true rfl)⟩ ⟨(Nat.le_of_ble_eq_true rfl), (Nat.le_of_ble_eq_true rfl)⟩ dX2_ofMoment_6 (fun _ _ z => False.elim z) (fun v9 ws9 h1 => ?_)
  obtain ⟨rfl, hw9⟩ := h1
  subst ws9
  dsimp only [mPush]
  refine r_iload_n hX dX2_ofMoment_9 rfl rfl ?_
  refine r_if_eq (tgt := 25) hX dX2_ofMoment_10 (by decide) (fun c3 => ?_) (fun c3 => ?_)
  · refine r_aload_n hX dX2_ofMoment_25 rfl rfl ?_
    refine r_get hX kf_X2_13 0 rfl rfl dX2_ofMoment_26 ?_
    refine r_iload_n hX dX2_ofMoment_29 rfl rfl ?_
    refine r_lald hX 2 1 rfl rfl (vp_in_nI hj0 (by decide)) dX2_ofMoment_30 ?_
    refine r_callS hX (c_X2_secondOf _ _ _) ks_X2_96 rfl rfl (Nat.le_of_ble_eq_true rfl) ⟨(Nat.le_of_ble_eq_true rfl), (Nat.le_of_ble_eq_true rfl)⟩ ⟨(Nat.le_of_ble_eq_true rfl), (Nat.le_of_ble_eq_true rfl)⟩ dX2_ofMoment_31 (fun _ _ z => False.elim z) (fun v9 ws9 h4 => ?_)
    obtain ⟨r6, rfl, hw9⟩ := h4
    subst ws9
    dsimp only [mPush]
    refine r_l2i hX dX2_ofMoment_34 ?_
    exact r_iret hX hE dX2_ofMoment_35 (Nat.le_of_ble_eq_true rfl) (Nat.le_of_ble_eq_true rfl) ⟨_, K, rfl, rfl, rfl⟩
  · refine r_aload_n hX dX2_ofMoment_13 rfl rfl ?_
    refine r_get hX kf_X2_13 0 rfl rfl dX2_ofMoment_14 ?_
    refine r_iload_n hX dX2_ofMoment_17 rfl rfl ?_
    refine r_lald hX 2 1 rfl rfl (vp_in_nI hj0 (by decide)) dX2_ofMoment_18 ?_
    refine r_callS hX (c_X2_nanoOf _ _ _) ks_X2_92 rfl rfl (Nat.le_of_ble_eq_true rfl) ⟨(Nat.le_of_ble_eq_true rfl), (Nat.le_of_ble_eq_true rfl)⟩ ⟨(Nat.le_of_ble_eq_true rfl), (Nat.le_of_ble_eq_true rfl)⟩ dX2_ofMoment_19 (fun _ _ z => False.elim z) (fun v9 ws9 h7 => ?_)
    obtain ⟨r9, rfl, hw9⟩ := h7
    subst ws9
    dsimp only [mPush]
    refine r_goto (tgt := 35) hX dX2_ofMoment_22 (by decide) ?_
    exact r_iret hX hE dX2_ofMoment_35 (Nat.le_of_ble_eq_true rfl) (Nat.le_of_ble_eq_true rfl) ⟨_, K, rfl, rfl, rfl⟩
set_option maxHeartbeats 4000000 in
set_option maxRecDepth 20000 in
theorem c_X2_ofMoment (ad : Nat → Nat) (cs : ClassId × ClassId × ClassId) (K : mK) (rest : va_W) (p0 : Int32) (p1 : Int32) : mCt (mTy cs) yX2_ofMoment cX2_ofMoment 3 (some .int) ⟨7, 1, 6, 103⟩ [.ref (ad 0), .int p0, .int p1] (mWd ad cs K rest) (mWi ad cs K rest) (mTh [xI] (mWd ad cs K rest)) := by
  refine mCt.of (by decide +kernel) (Nat.le_of_ble_eq_true rfl) (fun X hX hE => ?_)
  have hX : mOK X RX2 cX2_ofMoment 3 ⟨7, 1, 6, 103⟩ [] (mTy cs) := hX
  refine r_iload_n hX dX2_ofMoment_0 rfl rfl ?_
  refine r_aload_n hX dX2_ofMoment_1 rfl rfl ?_
  refine r_get hX kf_X2_13 0 rfl rfl dX2_ofMoment_2 ?_
  refine r_alen (v := nI 4) hX 2 1 rfl rfl rfl dX2_ofMoment_5 ?_
  refine r_callS hX (c_X2_requireOne _ _ _ 4 (by decide)) ks_X2_34 rfl rfl (Nat.le_of_ble_eq_true rfl) ⟨(Nat.le_of_ble_eq_true rfl), (Nat.le_of_ble_eq_true rfl)⟩ ⟨(Nat.le_of_ble_eq_true rfl), (Nat.le_of_ble_eq_true rfl)⟩ dX2_ofMoment_6 (fun E ws9 z => r_out hX hE (Nat.le_of_ble_eq_true rfl) (Nat.le_of_ble_eq_true rfl) (⟨by rw [z.1]; exact List.mem_cons_self, z.2.1⟩)) (fun v9 ws9 h1 => ?_)
  obtain ⟨i3, hhi3, rfl, rfl, hw9⟩ := h1
  subst ws9
  dsimp only [mPush]
  refine r_iload_n hX dX2_ofMoment_9 rfl rfl ?_
  refine r_if_eq (tgt := 25) hX dX2_ofMoment_10 (by decide) (fun c4 => ?_) (fun c4 => ?_)
  · refine r_aload_n hX dX2_ofMoment_25 rfl rfl ?_
    refine r_get hX kf_X2_13 0 rfl rfl dX2_ofMoment_26 ?_
    refine r_iload_n hX dX2_ofMoment_29 rfl rfl ?_
    refine r_lald hX 2 1 rfl rfl (vp_in_nI hhi3 (by decide)) dX2_ofMoment_30 ?_
    refine r_callS hX (c_X2_secondOf _ _ _) ks_X2_96 rfl rfl (Nat.le_of_ble_eq_true rfl) ⟨(Nat.le_of_ble_eq_true rfl), (Nat.le_of_ble_eq_true rfl)⟩ ⟨(Nat.le_of_ble_eq_true rfl), (Nat.le_of_ble_eq_true rfl)⟩ dX2_ofMoment_31 (fun _ _ z => False.elim z) (fun v9 ws9 h5 => ?_)
    obtain ⟨r7, rfl, hw9⟩ := h5
    subst ws9
    dsimp only [mPush]
    refine r_l2i hX dX2_ofMoment_34 ?_
    exact r_iret hX hE dX2_ofMoment_35 (Nat.le_of_ble_eq_true rfl) (Nat.le_of_ble_eq_true rfl) ⟨_, K, rfl, rfl, rfl⟩
  · refine r_aload_n hX dX2_ofMoment_13 rfl rfl ?_
    refine r_get hX kf_X2_13 0 rfl rfl dX2_ofMoment_14 ?_
    refine r_iload_n hX dX2_ofMoment_17 rfl rfl ?_
    refine r_lald hX 2 1 rfl rfl (vp_in_nI hhi3 (by decide)) dX2_ofMoment_18 ?_
    refine r_callS hX (c_X2_nanoOf _ _ _) ks_X2_92 rfl rfl (Nat.le_of_ble_eq_true rfl) ⟨(Nat.le_of_ble_eq_true rfl), (Nat.le_of_ble_eq_true rfl)⟩ ⟨(Nat.le_of_ble_eq_true rfl), (Nat.le_of_ble_eq_true rfl)⟩ dX2_ofMoment_19 (fun _ _ z => False.elim z) (fun v9 ws9 h8 => ?_)
    obtain ⟨r10, rfl, hw9⟩ := h8
    subst ws9
    dsimp only [mPush]
    refine r_goto (tgt := 35) hX dX2_ofMoment_22 (by decide) ?_
    exact r_iret hX hE dX2_ofMoment_35 (Nat.le_of_ble_eq_true rfl) (Nat.le_of_ble_eq_true rfl) ⟨_, K, rfl, rfl, rfl⟩
theorem dX2_house_0 : decode cX2_house 0 = .ok (.iload_n 1, 1) := by decide +kernel
theorem dX2_house_1 : decode cX2_house 1 = .ok (.iconst 0, 1) := by decide +kernel
theorem dX2_house_2 : decode cX2_house 2 = .ok (.iconst 3, 1) := by decide +kernel
theorem dX2_house_3 : decode cX2_house 3 = .ok (.invokestatic 40, 3) := by decide +kernel
theorem dX2_house_6 : decode cX2_house 6 = .ok (.iload_n 1, 1) := by decide +kernel
theorem dX2_house_7 : decode cX2_house 7 = .ok (.tableswitch 40 0 2 #[25, 30, 35], 25) := by decide +kernel
theorem dX2_house_32 : decode cX2_house 32 = .ok (.aload_n 0, 1) := by decide +kernel
theorem dX2_house_33 : decode cX2_house 33 = .ok (.getfield 196, 3) := by decide +kernel
theorem dX2_house_36 : decode cX2_house 36 = .ok (.ireturn, 1) := by decide +kernel
theorem dX2_house_37 : decode cX2_house 37 = .ok (.aload_n 0, 1) := by decide +kernel
theorem dX2_house_38 : decode cX2_house 38 = .ok (.getfield 199, 3) := by decide +kernel
theorem dX2_house_41 : decode cX2_house 41 = .ok (.ireturn, 1) := by decide +kernel
theorem dX2_house_42 : decode cX2_house 42 = .ok (.aload_n 0, 1) := by decide +kernel
theorem dX2_house_43 : decode cX2_house 43 = .ok (.invokevirtual 202, 3) := by decide +kernel
theorem dX2_house_46 : decode cX2_house 46 = .ok (.ireturn, 1) := by decide +kernel
theorem dX2_house_47 : decode cX2_house 47 = .ok (.aload_n 0, 1) := by decide +kernel
theorem dX2_house_48 : decode cX2_house 48 = .ok (.invokevirtual 205, 3) := by decide +kernel
theorem dX2_house_51 : decode cX2_house 51 = .ok (.ireturn, 1) := by decide +kernel
set_option maxHeartbeats 4000000 in
set_option maxRecDepth 20000 in
theorem c_X2_house_ok (ad : Nat → Nat) (cs : ClassId × ClassId × ClassId) (K : mK) (rest : va_W) (j0 : Nat) (hj0 : j0 < 4) : mCt (mTy cs) yX2_house cX2_house 2 (some .int) ⟨4, 0, 0, 89⟩ [.ref (ad 0), .int (nI j0)] (mWd ad cs K rest) (mWi ad cs K rest) mNo := by
  refine mCt.of (by decide +kernel) (Nat.le_of_ble_eq_true rfl) (fun X hX hE => ?_)
  have hX : mOK X RX2 cX2_house 2 ⟨4, 0, 0, 89⟩ [] (mTy cs) := hX
  refine r_iload_n hX dX2_house_0 rfl rfl ?_
  refine r_iconst (v := 0) hX dX2_house_1 (by decide) ?_
  refine r_iconst (v := 3) hX dX2_house_2 (by decide) ?_
  refine r_callS hX (c_X2_requireWithin_ok _ _ _ _ _ (mbn hj0)) ks_X2_40 rfl rfl (Nat.le_of_ble_eq_true rfl) ⟨(Nat.le_of_ble_eq_true rfl), (Nat.le_of_ble_eq_true rfl)⟩ ⟨(Nat.le_of_ble_eq_true rfl), (Nat.le_of_ble_eq_true rfl)⟩ dX2_house_3 (fun _ _ z => False.elim z) (fun v9 ws9 h1 => ?_)
  obtain ⟨rfl, hw9⟩ := h1
  subst ws9
  dsimp only [mPush]
  refine r_iload_n hX dX2_house_6 rfl rfl ?_
  by_cases s3 : (nI j0).toInt = 0
  · refine r_tableIn (off := 25) (tgt := 32) hX dX2_house_7 (by omega) (by omega) (by rw [s3]; rfl) (by decide) ?_
    refine r_aload_n hX dX2_house_32 rfl rfl ?_
    refine r_get hX kf_X2_196 0 rfl rfl dX2_house_33 ?_
    exact r_iret hX hE dX2_house_36 (Nat.le_of_ble_eq_true rfl) (Nat.le_of_ble_eq_true rfl) ⟨_, K, rfl, rfl, rfl⟩
  by_cases s4 : (nI j0).toInt = 1
  · refine r_tableIn (off := 30) (tgt := 37) hX dX2_house_7 (by omega) (by omega) (by rw [s4]; rfl) (by decide) ?_
    refine r_aload_n hX dX2_house_37 rfl rfl ?_
    refine r_get hX kf_X2_199 0 rfl rfl dX2_house_38 ?_
    exact r_iret hX hE dX2_house_41 (Nat.le_of_ble_eq_true rfl) (Nat.le_of_ble_eq_true rfl) ⟨_, K, rfl, rfl, rfl⟩
  by_cases s5 : (nI j0).toInt = 2
  · refine r_tableIn (off := 35) (tgt := 42) hX dX2_house_7 (by omega) (by omega) (by rw [s5]; rfl) (by decide) ?_
    refine r_aload_n hX dX2_house_42 rfl rfl ?_
    refine r_callV hX (c_X2_firstDated _ _ _ _) kv_X2_202 0 rfl rfl rfl rfl (Nat.le_of_ble_eq_true rfl) ⟨(Nat.le_of_ble_eq_true rfl), (Nat.le_of_ble_eq_true rfl)⟩ ⟨(Nat.le_of_ble_eq_true rfl), (Nat.le_of_ble_eq_true rfl)⟩ dX2_house_43 (fun _ _ z => False.elim z) (fun v9 ws9 h6 => ?_)
    obtain ⟨r8, K9, hK9, rfl, hw9⟩ := h6
    subst ws9
    dsimp only [mPush]
    exact r_iret hX hE dX2_house_46 (Nat.le_of_ble_eq_true rfl) (Nat.le_of_ble_eq_true rfl) ⟨_, K9, (hK9.trans rfl), rfl, rfl⟩
  refine r_tableOut (tgt := 47) hX dX2_house_7 (by omega) (by decide) ?_
  refine r_aload_n hX dX2_house_47 rfl rfl ?_
  refine r_callV hX (c_X2_firstMoment _ _ _ _) kv_X2_205 0 rfl rfl rfl rfl (Nat.le_of_ble_eq_true rfl) ⟨(Nat.le_of_ble_eq_true rfl), (Nat.le_of_ble_eq_true rfl)⟩ ⟨(Nat.le_of_ble_eq_true rfl), (Nat.le_of_ble_eq_true rfl)⟩ dX2_house_48 (fun _ _ z => False.elim z) (fun v9 ws9 h10 => ?_)
  obtain ⟨r12, K13, hK13, rfl, hw9⟩ := h10
  subst ws9
  dsimp only [mPush]
  exact r_iret hX hE dX2_house_51 (Nat.le_of_ble_eq_true rfl) (Nat.le_of_ble_eq_true rfl) ⟨_, K13, (hK13.trans rfl), rfl, rfl⟩
set_option maxHeartbeats 4000000 in
set_option maxRecDepth 20000 in
theorem c_X2_house (ad : Nat → Nat) (cs : ClassId × ClassId × ClassId) (K : mK) (rest : va_W) (p0 : Int32) : mCt (mTy cs) yX2_house cX2_house 2 (some .int) ⟨7, 1, 6, 104⟩ [.ref (ad 0), .int p0] (mWd ad cs K rest) (mWi ad cs K rest) (mTh [xA] (mWd ad cs K rest)) := by
  refine mCt.of (by decide +kernel) (Nat.le_of_ble_eq_true rfl) (fun X hX hE => ?_)
  have hX : mOK X RX2 cX2_house 2 ⟨7, 1, 6, 104⟩ [] (mTy cs) := hX
  refine r_iload_n hX dX2_house_0 rfl rfl ?_
  refine r_iconst (v := 0) hX dX2_house_1 (by decide) ?_
  refine r_iconst (v := 3) hX dX2_house_2 (by decide) ?_
  refine r_callS hX (c_X2_requireWithin _ _ _ _ _) ks_X2_40 rfl rfl (Nat.le_of_ble_eq_true rfl) ⟨(Nat.le_of_ble_eq_true rfl), (Nat.le_of_ble_eq_true rfl)⟩ ⟨(Nat.le_of_ble_eq_true rfl), (Nat.le_of_ble_eq_true rfl)⟩ dX2_house_3 (fun E ws9 z => r_out hX hE (Nat.le_of_ble_eq_true rfl) (Nat.le_of_ble_eq_true rfl) (⟨by rw [z.1]; exact List.mem_cons_self, z.2.1⟩)) (fun v9 ws9 h1 => ?_)
  obtain ⟨a3, rfl, hw9⟩ := h1
  subst ws9
  dsimp only [mPush]
  refine r_iload_n hX dX2_house_6 rfl rfl ?_
  by_cases s4 : p0.toInt = 0
  · refine r_tableIn (off := 25) (tgt := 32) hX dX2_house_7 (by omega) (by omega) (by rw [s4]; rfl) (by decide) ?_
    refine r_aload_n hX dX2_house_32 rfl rfl ?_
    refine r_get hX kf_X2_196 0 rfl rfl dX2_house_33 ?_
    exact r_iret hX hE dX2_house_36 (Nat.le_of_ble_eq_true rfl) (Nat.le_of_ble_eq_true rfl) ⟨_, K, rfl, rfl, rfl⟩
  by_cases s5 : p0.toInt = 1
  · refine r_tableIn (off := 30) (tgt := 37) hX dX2_house_7 (by omega) (by omega) (by rw [s5]; rfl) (by decide) ?_
    refine r_aload_n hX dX2_house_37 rfl rfl ?_
    refine r_get hX kf_X2_199 0 rfl rfl dX2_house_38 ?_
    exact r_iret hX hE dX2_house_41 (Nat.le_of_ble_eq_true rfl) (Nat.le_of_ble_eq_true rfl) ⟨_, K, rfl, rfl, rfl⟩
  by_cases s6 : p0.toInt = 2
  · refine r_tableIn (off := 35) (tgt := 42) hX dX2_house_7 (by omega) (by omega) (by rw [s6]; rfl) (by decide) ?_
    refine r_aload_n hX dX2_house_42 rfl rfl ?_
    refine r_callV hX (c_X2_firstDated _ _ _ _) kv_X2_202 0 rfl rfl rfl rfl (Nat.le_of_ble_eq_true rfl) ⟨(Nat.le_of_ble_eq_true rfl), (Nat.le_of_ble_eq_true rfl)⟩ ⟨(Nat.le_of_ble_eq_true rfl), (Nat.le_of_ble_eq_true rfl)⟩ dX2_house_43 (fun _ _ z => False.elim z) (fun v9 ws9 h7 => ?_)
    obtain ⟨r9, K10, hK10, rfl, hw9⟩ := h7
    subst ws9
    dsimp only [mPush]
    exact r_iret hX hE dX2_house_46 (Nat.le_of_ble_eq_true rfl) (Nat.le_of_ble_eq_true rfl) ⟨_, K10, (hK10.trans rfl), rfl, rfl⟩
  refine r_tableOut (tgt := 47) hX dX2_house_7 (by omega) (by decide) ?_
  refine r_aload_n hX dX2_house_47 rfl rfl ?_
  refine r_callV hX (c_X2_firstMoment _ _ _ _) kv_X2_205 0 rfl rfl rfl rfl (Nat.le_of_ble_eq_true rfl) ⟨(Nat.le_of_ble_eq_true rfl), (Nat.le_of_ble_eq_true rfl)⟩ ⟨(Nat.le_of_ble_eq_true rfl), (Nat.le_of_ble_eq_true rfl)⟩ dX2_house_48 (fun _ _ z => False.elim z) (fun v9 ws9 h11 => ?_)
  obtain ⟨r13, K14, hK14, rfl, hw9⟩ := h11
  subst ws9
  dsimp only [mPush]
  exact r_iret hX hE dX2_house_51 (Nat.le_of_ble_eq_true rfl) (Nat.le_of_ble_eq_true rfl) ⟨_, K14, (hK14.trans rfl), rfl, rfl⟩
theorem dX2_withOffsets_0 : decode cX2_withOffsets 0 = .ok (.lload_n 1, 1) := by decide +kernel
theorem dX2_withOffsets_1 : decode cX2_withOffsets 1 = .ok (.lstore_n 3, 1) := by decide +kernel
theorem dX2_withOffsets_2 : decode cX2_withOffsets 2 = .ok (.iconst 0, 1) := by decide +kernel
theorem dX2_withOffsets_3 : decode cX2_withOffsets 3 = .ok (.istore 5, 2) := by decide +kernel
theorem dX2_withOffsets_5 : decode cX2_withOffsets 5 = .ok (.iload 5, 2) := by decide +kernel
theorem dX2_withOffsets_7 : decode cX2_withOffsets 7 = .ok (.aload_n 0, 1) := by decide +kernel
theorem dX2_withOffsets_8 : decode cX2_withOffsets 8 = .ok (.getfield 9, 3) := by decide +kernel
theorem dX2_withOffsets_11 : decode cX2_withOffsets 11 = .ok (.arraylength, 1) := by decide +kernel
theorem dX2_withOffsets_12 : decode cX2_withOffsets 12 = .ok (.if_icmp .ge 21, 3) := by decide +kernel
theorem dX2_withOffsets_15 : decode cX2_withOffsets 15 = .ok (.lload_n 3, 1) := by decide +kernel
theorem dX2_withOffsets_16 : decode cX2_withOffsets 16 = .ok (.aload_n 0, 1) := by decide +kernel
theorem dX2_withOffsets_17 : decode cX2_withOffsets 17 = .ok (.iload 5, 2) := by decide +kernel
theorem dX2_withOffsets_19 : decode cX2_withOffsets 19 = .ok (.invokevirtual 64, 3) := by decide +kernel
theorem dX2_withOffsets_22 : decode cX2_withOffsets 22 = .ok (.i2l, 1) := by decide +kernel
theorem dX2_withOffsets_23 : decode cX2_withOffsets 23 = .ok (.invokestatic 247, 3) := by decide +kernel
theorem dX2_withOffsets_26 : decode cX2_withOffsets 26 = .ok (.lstore_n 3, 1) := by decide +kernel
theorem dX2_withOffsets_27 : decode cX2_withOffsets 27 = .ok (.iinc 5 1, 3) := by decide +kernel
theorem dX2_withOffsets_30 : decode cX2_withOffsets 30 = .ok (.goto (-25), 3) := by decide +kernel
theorem dX2_withOffsets_33 : decode cX2_withOffsets 33 = .ok (.lload_n 3, 1) := by decide +kernel
theorem dX2_withOffsets_34 : decode cX2_withOffsets 34 = .ok (.lreturn, 1) := by decide +kernel
set_option maxHeartbeats 4000000 in
set_option maxRecDepth 20000 in
theorem c_X2_withOffsets (ad : Nat → Nat) (cs : ClassId × ClassId × ClassId) (K : mK) (rest : va_W) (p0 : Int64) : mCt (mTy cs) yX2_withOffsets cX2_withOffsets 6 (some .long) ⟨2, 0, 0, 42⟩ [.ref (ad 0), .long p0] (mWd ad cs K rest) (mWl ad cs K rest) mNo := by
  refine mCt.of (by decide +kernel) (Nat.le_of_ble_eq_true rfl) (fun X hX hE => ?_)
  have hX : mOK X RX2 cX2_withOffsets 6 ⟨2, 0, 0, 42⟩ [] (mTy cs) := hX
  refine r_lload_n hX dX2_withOffsets_0 rfl rfl ?_
  refine r_lstore_n hX dX2_withOffsets_1 rfl (by decide) rfl ?_
  refine r_iconst (v := 0) hX dX2_withOffsets_2 (by decide) ?_
  refine r_istore hX dX2_withOffsets_3 (by decide) rfl ?_
  have L5 : ∀ (N4 j1 : Nat) (x2 : Int64), 4 - j1 < N4 → j1 ≤ 4 → ∀ K3 : mK, K3.1 = K.1 → mV X 5 [(0, some (.ref (ad 0))), (1, some (.long p0)), (3, some (.long x2)), (5, some (.int (nI j1)))] [] (mWd ad cs K3 rest) 0 0 := by
    intro N4
    induction N4 with
    | zero => intro j1 x2; omega
    | succ N4 ih5 =>
      intro j1 x2 hN5 hj1e K3 hK3
      refine r_iload hX dX2_withOffsets_5 rfl ?_
      refine r_aload_n hX dX2_withOffsets_7 rfl rfl ?_
      refine r_get hX kf_X2_9 0 rfl rfl dX2_withOffsets_8 ?_
      refine r_alen (v := nI 4) hX 1 0 rfl rfl rfl dX2_withOffsets_11 ?_
      refine r_icmp_ge (tgt := 33) hX dX2_withOffsets_12 (by decide) (fun c5 => ?_) (fun c5 => ?_)
      · refine r_lload_n hX dX2_withOffsets_33 rfl rfl ?_
        exact r_lret hX hE dX2_withOffsets_34 (Nat.le_of_ble_eq_true rfl) (Nat.le_of_ble_eq_true rfl) ⟨_, K3, hK3, rfl, rfl⟩
      · have hj1 : j1 < 4 := mlt (by first | rfl | decide) (by decide) hj1e c5
        refine r_lload_n hX dX2_withOffsets_15 rfl rfl ?_
        refine r_aload_n hX dX2_withOffsets_16 rfl rfl ?_
        refine r_iload hX dX2_withOffsets_17 rfl ?_
        refine r_callV hX (c_X2_seconds_ok _ _ _ _ j1 hj1) kv_X2_64 0 rfl rfl rfl rfl (Nat.le_of_ble_eq_true rfl) ⟨(Nat.le_of_ble_eq_true rfl), (Nat.le_of_ble_eq_true rfl)⟩ ⟨(Nat.le_of_ble_eq_true rfl), (Nat.le_of_ble_eq_true rfl)⟩ dX2_withOffsets_19 (fun _ _ z => False.elim z) (fun v9 ws9 h6 => ?_)
        obtain ⟨rfl, hw9⟩ := h6
        subst ws9
        dsimp only [mPush]
        refine r_i2l hX dX2_withOffsets_22 ?_
        refine r_callS hX (c_X2_added _ _ _ _) ks_X2_247 rfl rfl (Nat.le_of_ble_eq_true rfl) ⟨(Nat.le_of_ble_eq_true rfl), (Nat.le_of_ble_eq_true rfl)⟩ ⟨(Nat.le_of_ble_eq_true rfl), (Nat.le_of_ble_eq_true rfl)⟩ dX2_withOffsets_23 (fun _ _ z => False.elim z) (fun v9 ws9 h8 => ?_)
        obtain ⟨r10, rfl, hw9⟩ := h8
        subst ws9
        dsimp only [mPush]
        refine r_lstore_n hX dX2_withOffsets_26 rfl (by decide) rfl ?_
        refine r_iinc hX dX2_withOffsets_27 rfl (by decide) rfl ?_
        refine r_goto (tgt := 5) hX dX2_withOffsets_30 (by decide) ?_
        exact r_loc (k' := 0) (n' := 0) (by exact ⟨rfl, rfl, rfl, nI_inc' _, trivial⟩) (by decide) (by decide) (ih5 (j1 + 1) _ (by omega) (by omega) _ hK3)
  exact r_loc (k' := 0) (n' := 0) (by exact ⟨rfl, rfl, rfl, rfl, trivial⟩) (by decide) (by decide) (L5 (4 + 1) 0 _ (by omega) (by omega) _ rfl)
theorem dX2_withMoments_0 : decode cX2_withMoments 0 = .ok (.lload_n 1, 1) := by decide +kernel
theorem dX2_withMoments_1 : decode cX2_withMoments 1 = .ok (.lstore_n 3, 1) := by decide +kernel
theorem dX2_withMoments_2 : decode cX2_withMoments 2 = .ok (.iconst 0, 1) := by decide +kernel
theorem dX2_withMoments_3 : decode cX2_withMoments 3 = .ok (.istore 5, 2) := by decide +kernel
theorem dX2_withMoments_5 : decode cX2_withMoments 5 = .ok (.iload 5, 2) := by decide +kernel
theorem dX2_withMoments_7 : decode cX2_withMoments 7 = .ok (.aload_n 0, 1) := by decide +kernel
theorem dX2_withMoments_8 : decode cX2_withMoments 8 = .ok (.getfield 13, 3) := by decide +kernel
theorem dX2_withMoments_11 : decode cX2_withMoments 11 = .ok (.arraylength, 1) := by decide +kernel
theorem dX2_withMoments_12 : decode cX2_withMoments 12 = .ok (.if_icmp .ge 35, 3) := by decide +kernel
theorem dX2_withMoments_15 : decode cX2_withMoments 15 = .ok (.lload_n 3, 1) := by decide +kernel
theorem dX2_withMoments_16 : decode cX2_withMoments 16 = .ok (.aload_n 0, 1) := by decide +kernel
theorem dX2_withMoments_17 : decode cX2_withMoments 17 = .ok (.iload 5, 2) := by decide +kernel
theorem dX2_withMoments_19 : decode cX2_withMoments 19 = .ok (.iconst 0, 1) := by decide +kernel
theorem dX2_withMoments_20 : decode cX2_withMoments 20 = .ok (.invokevirtual 376, 3) := by decide +kernel
theorem dX2_withMoments_23 : decode cX2_withMoments 23 = .ok (.i2l, 1) := by decide +kernel
theorem dX2_withMoments_24 : decode cX2_withMoments 24 = .ok (.invokestatic 247, 3) := by decide +kernel
theorem dX2_withMoments_27 : decode cX2_withMoments 27 = .ok (.lstore_n 3, 1) := by decide +kernel
theorem dX2_withMoments_28 : decode cX2_withMoments 28 = .ok (.lload_n 3, 1) := by decide +kernel
theorem dX2_withMoments_29 : decode cX2_withMoments 29 = .ok (.aload_n 0, 1) := by decide +kernel
theorem dX2_withMoments_30 : decode cX2_withMoments 30 = .ok (.iload 5, 2) := by decide +kernel
theorem dX2_withMoments_32 : decode cX2_withMoments 32 = .ok (.iconst 1, 1) := by decide +kernel
theorem dX2_withMoments_33 : decode cX2_withMoments 33 = .ok (.invokevirtual 376, 3) := by decide +kernel
theorem dX2_withMoments_36 : decode cX2_withMoments 36 = .ok (.i2l, 1) := by decide +kernel
theorem dX2_withMoments_37 : decode cX2_withMoments 37 = .ok (.invokestatic 247, 3) := by decide +kernel
theorem dX2_withMoments_40 : decode cX2_withMoments 40 = .ok (.lstore_n 3, 1) := by decide +kernel
theorem dX2_withMoments_41 : decode cX2_withMoments 41 = .ok (.iinc 5 1, 3) := by decide +kernel
theorem dX2_withMoments_44 : decode cX2_withMoments 44 = .ok (.goto (-39), 3) := by decide +kernel
theorem dX2_withMoments_47 : decode cX2_withMoments 47 = .ok (.lload_n 3, 1) := by decide +kernel
theorem dX2_withMoments_48 : decode cX2_withMoments 48 = .ok (.lreturn, 1) := by decide +kernel
set_option maxHeartbeats 4000000 in
set_option maxRecDepth 20000 in
theorem c_X2_withMoments (ad : Nat → Nat) (cs : ClassId × ClassId × ClassId) (K : mK) (rest : va_W) (p0 : Int64) : mCt (mTy cs) yX2_withMoments cX2_withMoments 6 (some .long) ⟨3, 0, 0, 68⟩ [.ref (ad 0), .long p0] (mWd ad cs K rest) (mWl ad cs K rest) mNo := by
  refine mCt.of (by decide +kernel) (Nat.le_of_ble_eq_true rfl) (fun X hX hE => ?_)
  have hX : mOK X RX2 cX2_withMoments 6 ⟨3, 0, 0, 68⟩ [] (mTy cs) := hX
  refine r_lload_n hX dX2_withMoments_0 rfl rfl ?_
  refine r_lstore_n hX dX2_withMoments_1 rfl (by decide) rfl ?_
  refine r_iconst (v := 0) hX dX2_withMoments_2 (by decide) ?_
  refine r_istore hX dX2_withMoments_3 (by decide) rfl ?_
  have L5 : ∀ (N4 j1 : Nat) (x2 : Int64), 4 - j1 < N4 → j1 ≤ 4 → ∀ K3 : mK, K3.1 = K.1 → mV X 5 [(0, some (.ref (ad 0))), (1, some (.long p0)), (3, some (.long x2)), (5, some (.int (nI j1)))] [] (mWd ad cs K3 rest) 0 0 := by
    intro N4
    induction N4 with
    | zero => intro j1 x2; omega
    | succ N4 ih5 =>
      intro j1 x2 hN5 hj1e K3 hK3
      refine r_iload hX dX2_withMoments_5 rfl ?_
      refine r_aload_n hX dX2_withMoments_7 rfl rfl ?_
      refine r_get hX kf_X2_13 0 rfl rfl dX2_withMoments_8 ?_
      refine r_alen (v := nI 4) hX 2 1 rfl rfl rfl dX2_withMoments_11 ?_
      refine r_icmp_ge (tgt := 47) hX dX2_withMoments_12 (by decide) (fun c5 => ?_) (fun c5 => ?_)
      · refine r_lload_n hX dX2_withMoments_47 rfl rfl ?_
        exact r_lret hX hE dX2_withMoments_48 (Nat.le_of_ble_eq_true rfl) (Nat.le_of_ble_eq_true rfl) ⟨_, K3, hK3, rfl, rfl⟩
      · have hj1 : j1 < 4 := mlt (by first | rfl | decide) (by decide) hj1e c5
        refine r_lload_n hX dX2_withMoments_15 rfl rfl ?_
        refine r_aload_n hX dX2_withMoments_16 rfl rfl ?_
        refine r_iload hX dX2_withMoments_17 rfl ?_
        refine r_iconst (v := 0) hX dX2_withMoments_19 (by decide) ?_
        refine r_callV hX (c_X2_ofMoment_ok _ _ _ _ j1 hj1 _) kv_X2_376 0 rfl rfl rfl rfl (Nat.le_of_ble_eq_true rfl) ⟨(Nat.le_of_ble_eq_true rfl), (Nat.le_of_ble_eq_true rfl)⟩ ⟨(Nat.le_of_ble_eq_true rfl), (Nat.le_of_ble_eq_true rfl)⟩ dX2_withMoments_20 (fun _ _ z => False.elim z) (fun v9 ws9 h6 => ?_)
        obtain ⟨r8, K9, hK9, rfl, hw9⟩ := h6
        subst ws9
        dsimp only [mPush]
        refine r_i2l hX dX2_withMoments_23 ?_
        refine r_callS hX (c_X2_added _ _ _ _) ks_X2_247 rfl rfl (Nat.le_of_ble_eq_true rfl) ⟨(Nat.le_of_ble_eq_true rfl), (Nat.le_of_ble_eq_true rfl)⟩ ⟨(Nat.le_of_ble_eq_true rfl), (Nat.le_of_ble_eq_true rfl)⟩ dX2_withMoments_24 (fun _ _ z => False.elim z) (fun v9 ws9 h10 => ?_)
        obtain ⟨r12, rfl, hw9⟩ := h10
        subst ws9
        dsimp only [mPush]
        refine r_lstore_n hX dX2_withMoments_27 rfl (by decide) rfl ?_
        refine r_lload_n hX dX2_withMoments_28 rfl rfl ?_
        refine r_aload_n hX dX2_withMoments_29 rfl rfl ?_
        refine r_iload hX dX2_withMoments_30 rfl ?_
        refine r_iconst (v := 1) hX dX2_withMoments_32 (by decide) ?_
        refine r_callV hX (c_X2_ofMoment_ok _ _ _ _ j1 hj1 _) kv_X2_376 0 rfl rfl rfl rfl (Nat.le_of_ble_eq_true rfl) ⟨(Nat.le_of_ble_eq_true rfl), (Nat.le_of_ble_eq_true rfl)⟩ ⟨(Nat.le_of_ble_eq_true rfl), (Nat.le_of_ble_eq_true rfl)⟩ dX2_withMoments_33 (fun _ _ z => False.elim z) (fun v9 ws9 h13 => ?_)
        obtain ⟨r15, K16, hK16, rfl, hw9⟩ := h13
        subst ws9
        dsimp only [mPush]
        refine r_i2l hX dX2_withMoments_36 ?_
        refine r_callS hX (c_X2_added _ _ _ _) ks_X2_247 rfl rfl (Nat.le_of_ble_eq_true rfl) ⟨(Nat.le_of_ble_eq_true rfl), (Nat.le_of_ble_eq_true rfl)⟩ ⟨(Nat.le_of_ble_eq_true rfl), (Nat.le_of_ble_eq_true rfl)⟩ dX2_withMoments_37 (fun _ _ z => False.elim z) (fun v9 ws9 h17 => ?_)
        obtain ⟨r19, rfl, hw9⟩ := h17
        subst ws9
        dsimp only [mPush]
        refine r_lstore_n hX dX2_withMoments_40 rfl (by decide) rfl ?_
        refine r_iinc hX dX2_withMoments_41 rfl (by decide) rfl ?_
        refine r_goto (tgt := 5) hX dX2_withMoments_44 (by decide) ?_
        exact r_loc (k' := 0) (n' := 0) (by exact ⟨rfl, rfl, rfl, nI_inc' _, trivial⟩) (by decide) (by decide) (ih5 (j1 + 1) _ (by omega) (by omega) _ (hK16.trans (hK9.trans hK3)))
  exact r_loc (k' := 0) (n' := 0) (by exact ⟨rfl, rfl, rfl, rfl, trivial⟩) (by decide) (by decide) (L5 (4 + 1) 0 _ (by omega) (by omega) _ rfl)
theorem dX2_withDates_0 : decode cX2_withDates 0 = .ok (.lload_n 1, 1) := by decide +kernel
theorem dX2_withDates_1 : decode cX2_withDates 1 = .ok (.lstore_n 3, 1) := by decide +kernel
theorem dX2_withDates_2 : decode cX2_withDates 2 = .ok (.iconst 0, 1) := by decide +kernel
theorem dX2_withDates_3 : decode cX2_withDates 3 = .ok (.istore 5, 2) := by decide +kernel
theorem dX2_withDates_5 : decode cX2_withDates 5 = .ok (.iload 5, 2) := by decide +kernel
theorem dX2_withDates_7 : decode cX2_withDates 7 = .ok (.aload_n 0, 1) := by decide +kernel
theorem dX2_withDates_8 : decode cX2_withDates 8 = .ok (.getfield 20, 3) := by decide +kernel
theorem dX2_withDates_11 : decode cX2_withDates 11 = .ok (.arraylength, 1) := by decide +kernel
theorem dX2_withDates_12 : decode cX2_withDates 12 = .ok (.if_icmp .ge 45, 3) := by decide +kernel
theorem dX2_withDates_15 : decode cX2_withDates 15 = .ok (.iconst 0, 1) := by decide +kernel
theorem dX2_withDates_16 : decode cX2_withDates 16 = .ok (.istore 6, 2) := by decide +kernel
theorem dX2_withDates_18 : decode cX2_withDates 18 = .ok (.iload 6, 2) := by decide +kernel
theorem dX2_withDates_20 : decode cX2_withDates 20 = .ok (.bipush 13, 2) := by decide +kernel
theorem dX2_withDates_22 : decode cX2_withDates 22 = .ok (.if_icmp .ge 29, 3) := by decide +kernel
theorem dX2_withDates_25 : decode cX2_withDates 25 = .ok (.lload_n 3, 1) := by decide +kernel
theorem dX2_withDates_26 : decode cX2_withDates 26 = .ok (.aload_n 0, 1) := by decide +kernel
theorem dX2_withDates_27 : decode cX2_withDates 27 = .ok (.getfield 20, 3) := by decide +kernel
theorem dX2_withDates_30 : decode cX2_withDates 30 = .ok (.iload 5, 2) := by decide +kernel
theorem dX2_withDates_32 : decode cX2_withDates 32 = .ok (.invokestatic 84, 3) := by decide +kernel
theorem dX2_withDates_35 : decode cX2_withDates 35 = .ok (.iload 6, 2) := by decide +kernel
theorem dX2_withDates_37 : decode cX2_withDates 37 = .ok (.invokestatic 175, 3) := by decide +kernel
theorem dX2_withDates_40 : decode cX2_withDates 40 = .ok (.i2l, 1) := by decide +kernel
theorem dX2_withDates_41 : decode cX2_withDates 41 = .ok (.invokestatic 247, 3) := by decide +kernel
theorem dX2_withDates_44 : decode cX2_withDates 44 = .ok (.lstore_n 3, 1) := by decide +kernel
theorem dX2_withDates_45 : decode cX2_withDates 45 = .ok (.iinc 6 1, 3) := by decide +kernel
theorem dX2_withDates_48 : decode cX2_withDates 48 = .ok (.goto (-30), 3) := by decide +kernel
theorem dX2_withDates_51 : decode cX2_withDates 51 = .ok (.iinc 5 1, 3) := by decide +kernel
theorem dX2_withDates_54 : decode cX2_withDates 54 = .ok (.goto (-49), 3) := by decide +kernel
theorem dX2_withDates_57 : decode cX2_withDates 57 = .ok (.lload_n 3, 1) := by decide +kernel
theorem dX2_withDates_58 : decode cX2_withDates 58 = .ok (.lreturn, 1) := by decide +kernel
set_option maxHeartbeats 4000000 in
set_option maxRecDepth 20000 in
theorem c_X2_withDates (ad : Nat → Nat) (cs : ClassId × ClassId × ClassId) (K : mK) (rest : va_W) (p0 : Int64) : mCt (mTy cs) yX2_withDates cX2_withDates 7 (some .long) ⟨5, 0, 0, 107⟩ [.ref (ad 0), .long p0] (mWd ad cs K rest) (mWl ad cs K rest) mNo := by
  refine mCt.of (by decide +kernel) (Nat.le_of_ble_eq_true rfl) (fun X hX hE => ?_)
  have hX : mOK X RX2 cX2_withDates 7 ⟨5, 0, 0, 107⟩ [] (mTy cs) := hX
  refine r_lload_n hX dX2_withDates_0 rfl rfl ?_
  refine r_lstore_n hX dX2_withDates_1 rfl (by decide) rfl ?_
  refine r_iconst (v := 0) hX dX2_withDates_2 (by decide) ?_
  refine r_istore hX dX2_withDates_3 (by decide) rfl ?_
  have L5 : ∀ (N4 j1 : Nat) (x2 : Int64), 4 - j1 < N4 → j1 ≤ 4 → ∀ K3 : mK, K3.1 = K.1 → mV X 5 [(0, some (.ref (ad 0))), (1, some (.long p0)), (3, some (.long x2)), (5, some (.int (nI j1)))] [] (mWd ad cs K3 rest) 0 0 := by
    intro N4
    induction N4 with
    | zero => intro j1 x2; omega
    | succ N4 ih5 =>
      intro j1 x2 hN5 hj1e K3 hK3
      refine r_iload hX dX2_withDates_5 rfl ?_
      refine r_aload_n hX dX2_withDates_7 rfl rfl ?_
      refine r_get hX kf_X2_20 0 rfl rfl dX2_withDates_8 ?_
      refine r_alen (v := nI 4) hX 3 2 rfl rfl rfl dX2_withDates_11 ?_
      refine r_icmp_ge (tgt := 57) hX dX2_withDates_12 (by decide) (fun c5 => ?_) (fun c5 => ?_)
      · refine r_lload_n hX dX2_withDates_57 rfl rfl ?_
        exact r_lret hX hE dX2_withDates_58 (Nat.le_of_ble_eq_true rfl) (Nat.le_of_ble_eq_true rfl) ⟨_, K3, hK3, rfl, rfl⟩
      · have hj1 : j1 < 4 := mlt (by first | rfl | decide) (by decide) hj1e c5
        refine r_iconst (v := 0) hX dX2_withDates_15 (by decide) ?_
        refine r_istore hX dX2_withDates_16 (by decide) rfl ?_
        have L18 : ∀ (N9 j6 : Nat) (x7 : Int64), 13 - j6 < N9 → j6 ≤ 13 → ∀ K8 : mK, K8.1 = K.1 → mV X 18 [(0, some (.ref (ad 0))), (1, some (.long p0)), (3, some (.long x7)), (5, some (.int (nI j1))), (6, some (.int (nI j6)))] [] (mWd ad cs K8 rest) 0 0 := by
          intro N9
          induction N9 with
          | zero => intro j6 x7; omega
          | succ N9 ih18 =>
            intro j6 x7 hN18 hj6e K8 hK8
            refine r_iload hX dX2_withDates_18 rfl ?_
            refine r_bipush (v := 13) hX dX2_withDates_20 (by decide) ?_
            refine r_icmp_ge (tgt := 51) hX dX2_withDates_22 (by decide) (fun c10 => ?_) (fun c10 => ?_)
            · refine r_iinc hX dX2_withDates_51 rfl (by decide) rfl ?_
              refine r_goto (tgt := 5) hX dX2_withDates_54 (by decide) ?_
              exact r_loc (k' := 0) (n' := 0) (by exact ⟨rfl, rfl, rfl, nI_inc' _, trivial⟩) (by decide) (by decide) (ih5 (j1 + 1) _ (by omega) (by omega) _ hK8)
            · have hj6 : j6 < 13 := mlt (by first | rfl | decide) (by decide) hj6e c10
              refine r_lload_n hX dX2_withDates_25 rfl rfl ?_
              refine r_aload_n hX dX2_withDates_26 rfl rfl ?_
              refine r_get hX kf_X2_20 0 rfl rfl dX2_withDates_27 ?_
              refine r_iload hX dX2_withDates_30 rfl ?_
              refine r_callS hX (c_X2_at_ok ad cs _ 3 _ 4 0 rfl (by decide) j1 hj1) ks_X2_84 rfl rfl (Nat.le_of_ble_eq_true rfl) ⟨(Nat.le_of_ble_eq_true rfl), (Nat.le_of_ble_eq_true rfl)⟩ ⟨(Nat.le_of_ble_eq_true rfl), (Nat.le_of_ble_eq_true rfl)⟩ dX2_withDates_32 (fun _ _ z => False.elim z) (fun v9 ws9 h11 => ?_)
              obtain ⟨rfl, hw9⟩ := h11
              subst ws9
              dsimp only [mPush]
              refine r_iload hX dX2_withDates_35 rfl ?_
              refine r_callS hX (c_X2_datePart _ _ (j1 + 5) _ _ _ _ (mWd_loc (d := j1) (by omega)) _) ks_X2_175 rfl rfl (Nat.le_of_ble_eq_true rfl) ⟨(Nat.le_of_ble_eq_true rfl), (Nat.le_of_ble_eq_true rfl)⟩ ⟨(Nat.le_of_ble_eq_true rfl), (Nat.le_of_ble_eq_true rfl)⟩ dX2_withDates_37 (fun _ _ z => False.elim z) (fun v9 ws9 h13 => ?_)
              obtain ⟨r15, rfl, hw9⟩ := h13
              subst ws9
              dsimp only [mPush]
              refine r_i2l hX dX2_withDates_40 ?_
              refine r_callS hX (c_X2_added _ _ _ _) ks_X2_247 rfl rfl (Nat.le_of_ble_eq_true rfl) ⟨(Nat.le_of_ble_eq_true rfl), (Nat.le_of_ble_eq_true rfl)⟩ ⟨(Nat.le_of_ble_eq_true rfl), (Nat.le_of_ble_eq_true rfl)⟩ dX2_withDates_41 (fun _ _ z => False.elim z) (fun v9 ws9 h16 => ?_)
              obtain ⟨r18, rfl, hw9⟩ := h16
              subst ws9
              dsimp only [mPush]
              refine r_lstore_n hX dX2_withDates_44 rfl (by decide) rfl ?_
              refine r_iinc hX dX2_withDates_45 rfl (by decide) rfl ?_
              refine r_goto (tgt := 18) hX dX2_withDates_48 (by decide) ?_
              exact r_loc (k' := 0) (n' := 0) (by exact ⟨rfl, rfl, rfl, rfl, nI_inc' _, trivial⟩) (by decide) (by decide) (ih18 (j6 + 1) _ (by omega) (by omega) _ hK8)
        exact r_loc (k' := 0) (n' := 0) (by exact ⟨rfl, rfl, rfl, rfl, rfl, trivial⟩) (by decide) (by decide) (L18 (13 + 1) 0 _ (by omega) (by omega) _ hK3)
  exact r_loc (k' := 0) (n' := 0) (by exact ⟨rfl, rfl, rfl, rfl, trivial⟩) (by decide) (by decide) (L5 (4 + 1) 0 _ (by omega) (by omega) _ rfl)
theorem dX2_withClocks_0 : decode cX2_withClocks 0 = .ok (.lload_n 1, 1) := by decide +kernel
theorem dX2_withClocks_1 : decode cX2_withClocks 1 = .ok (.lstore_n 3, 1) := by decide +kernel
theorem dX2_withClocks_2 : decode cX2_withClocks 2 = .ok (.iconst 0, 1) := by decide +kernel
theorem dX2_withClocks_3 : decode cX2_withClocks 3 = .ok (.istore 5, 2) := by decide +kernel
theorem dX2_withClocks_5 : decode cX2_withClocks 5 = .ok (.iload 5, 2) := by decide +kernel
theorem dX2_withClocks_7 : decode cX2_withClocks 7 = .ok (.aload_n 0, 1) := by decide +kernel
theorem dX2_withClocks_8 : decode cX2_withClocks 8 = .ok (.getfield 24, 3) := by decide +kernel
theorem dX2_withClocks_11 : decode cX2_withClocks 11 = .ok (.arraylength, 1) := by decide +kernel
theorem dX2_withClocks_12 : decode cX2_withClocks 12 = .ok (.if_icmp .ge 45, 3) := by decide +kernel
theorem dX2_withClocks_15 : decode cX2_withClocks 15 = .ok (.iconst 0, 1) := by decide +kernel
theorem dX2_withClocks_16 : decode cX2_withClocks 16 = .ok (.istore 6, 2) := by decide +kernel
theorem dX2_withClocks_18 : decode cX2_withClocks 18 = .ok (.iload 6, 2) := by decide +kernel
theorem dX2_withClocks_20 : decode cX2_withClocks 20 = .ok (.bipush 6, 2) := by decide +kernel
theorem dX2_withClocks_22 : decode cX2_withClocks 22 = .ok (.if_icmp .ge 29, 3) := by decide +kernel
theorem dX2_withClocks_25 : decode cX2_withClocks 25 = .ok (.lload_n 3, 1) := by decide +kernel
theorem dX2_withClocks_26 : decode cX2_withClocks 26 = .ok (.aload_n 0, 1) := by decide +kernel
theorem dX2_withClocks_27 : decode cX2_withClocks 27 = .ok (.getfield 24, 3) := by decide +kernel
theorem dX2_withClocks_30 : decode cX2_withClocks 30 = .ok (.iload 5, 2) := by decide +kernel
theorem dX2_withClocks_32 : decode cX2_withClocks 32 = .ok (.invokestatic 84, 3) := by decide +kernel
theorem dX2_withClocks_35 : decode cX2_withClocks 35 = .ok (.iload 6, 2) := by decide +kernel
theorem dX2_withClocks_37 : decode cX2_withClocks 37 = .ok (.invokestatic 193, 3) := by decide +kernel
theorem dX2_withClocks_40 : decode cX2_withClocks 40 = .ok (.i2l, 1) := by decide +kernel
theorem dX2_withClocks_41 : decode cX2_withClocks 41 = .ok (.invokestatic 247, 3) := by decide +kernel
theorem dX2_withClocks_44 : decode cX2_withClocks 44 = .ok (.lstore_n 3, 1) := by decide +kernel
theorem dX2_withClocks_45 : decode cX2_withClocks 45 = .ok (.iinc 6 1, 3) := by decide +kernel
theorem dX2_withClocks_48 : decode cX2_withClocks 48 = .ok (.goto (-30), 3) := by decide +kernel
theorem dX2_withClocks_51 : decode cX2_withClocks 51 = .ok (.iinc 5 1, 3) := by decide +kernel
theorem dX2_withClocks_54 : decode cX2_withClocks 54 = .ok (.goto (-49), 3) := by decide +kernel
theorem dX2_withClocks_57 : decode cX2_withClocks 57 = .ok (.lload_n 3, 1) := by decide +kernel
theorem dX2_withClocks_58 : decode cX2_withClocks 58 = .ok (.lreturn, 1) := by decide +kernel
set_option maxHeartbeats 4000000 in
set_option maxRecDepth 20000 in
theorem c_X2_withClocks (ad : Nat → Nat) (cs : ClassId × ClassId × ClassId) (K : mK) (rest : va_W) (p0 : Int64) : mCt (mTy cs) yX2_withClocks cX2_withClocks 7 (some .long) ⟨4, 0, 0, 86⟩ [.ref (ad 0), .long p0] (mWd ad cs K rest) (mWl ad cs K rest) mNo := by
  refine mCt.of (by decide +kernel) (Nat.le_of_ble_eq_true rfl) (fun X hX hE => ?_)
  have hX : mOK X RX2 cX2_withClocks 7 ⟨4, 0, 0, 86⟩ [] (mTy cs) := hX
  refine r_lload_n hX dX2_withClocks_0 rfl rfl ?_
  refine r_lstore_n hX dX2_withClocks_1 rfl (by decide) rfl ?_
  refine r_iconst (v := 0) hX dX2_withClocks_2 (by decide) ?_
  refine r_istore hX dX2_withClocks_3 (by decide) rfl ?_
  have L5 : ∀ (N4 j1 : Nat) (x2 : Int64), 3 - j1 < N4 → j1 ≤ 3 → ∀ K3 : mK, K3.1 = K.1 → mV X 5 [(0, some (.ref (ad 0))), (1, some (.long p0)), (3, some (.long x2)), (5, some (.int (nI j1)))] [] (mWd ad cs K3 rest) 0 0 := by
    intro N4
    induction N4 with
    | zero => intro j1 x2; omega
    | succ N4 ih5 =>
      intro j1 x2 hN5 hj1e K3 hK3
      refine r_iload hX dX2_withClocks_5 rfl ?_
      refine r_aload_n hX dX2_withClocks_7 rfl rfl ?_
      refine r_get hX kf_X2_24 0 rfl rfl dX2_withClocks_8 ?_
      refine r_alen (v := nI 3) hX 4 2 rfl rfl rfl dX2_withClocks_11 ?_
      refine r_icmp_ge (tgt := 57) hX dX2_withClocks_12 (by decide) (fun c5 => ?_) (fun c5 => ?_)
      · refine r_lload_n hX dX2_withClocks_57 rfl rfl ?_
        exact r_lret hX hE dX2_withClocks_58 (Nat.le_of_ble_eq_true rfl) (Nat.le_of_ble_eq_true rfl) ⟨_, K3, hK3, rfl, rfl⟩
      · have hj1 : j1 < 3 := mlt (by first | rfl | decide) (by decide) hj1e c5
        refine r_iconst (v := 0) hX dX2_withClocks_15 (by decide) ?_
        refine r_istore hX dX2_withClocks_16 (by decide) rfl ?_
        have L18 : ∀ (N9 j6 : Nat) (x7 : Int64), 6 - j6 < N9 → j6 ≤ 6 → ∀ K8 : mK, K8.1 = K.1 → mV X 18 [(0, some (.ref (ad 0))), (1, some (.long p0)), (3, some (.long x7)), (5, some (.int (nI j1))), (6, some (.int (nI j6)))] [] (mWd ad cs K8 rest) 0 0 := by
          intro N9
          induction N9 with
          | zero => intro j6 x7; omega
          | succ N9 ih18 =>
            intro j6 x7 hN18 hj6e K8 hK8
            refine r_iload hX dX2_withClocks_18 rfl ?_
            refine r_bipush (v := 6) hX dX2_withClocks_20 (by decide) ?_
            refine r_icmp_ge (tgt := 51) hX dX2_withClocks_22 (by decide) (fun c10 => ?_) (fun c10 => ?_)
            · refine r_iinc hX dX2_withClocks_51 rfl (by decide) rfl ?_
              refine r_goto (tgt := 5) hX dX2_withClocks_54 (by decide) ?_
              exact r_loc (k' := 0) (n' := 0) (by exact ⟨rfl, rfl, rfl, nI_inc' _, trivial⟩) (by decide) (by decide) (ih5 (j1 + 1) _ (by omega) (by omega) _ hK8)
            · have hj6 : j6 < 6 := mlt (by first | rfl | decide) (by decide) hj6e c10
              refine r_lload_n hX dX2_withClocks_25 rfl rfl ?_
              refine r_aload_n hX dX2_withClocks_26 rfl rfl ?_
              refine r_get hX kf_X2_24 0 rfl rfl dX2_withClocks_27 ?_
              refine r_iload hX dX2_withClocks_30 rfl ?_
              refine r_callS hX (c_X2_at_ok ad cs _ 4 _ 3 4 rfl (by decide) j1 hj1) ks_X2_84 rfl rfl (Nat.le_of_ble_eq_true rfl) ⟨(Nat.le_of_ble_eq_true rfl), (Nat.le_of_ble_eq_true rfl)⟩ ⟨(Nat.le_of_ble_eq_true rfl), (Nat.le_of_ble_eq_true rfl)⟩ dX2_withClocks_32 (fun _ _ z => False.elim z) (fun v9 ws9 h11 => ?_)
              obtain ⟨rfl, hw9⟩ := h11
              subst ws9
              dsimp only [mPush]
              refine r_iload hX dX2_withClocks_35 rfl ?_
              refine r_callS hX (c_X2_clockPart _ _ (j1 + 4 + 5) _ _ _ _ (mWd_loc (d := j1 + 4) (by omega)) _) ks_X2_193 rfl rfl (Nat.le_of_ble_eq_true rfl) ⟨(Nat.le_of_ble_eq_true rfl), (Nat.le_of_ble_eq_true rfl)⟩ ⟨(Nat.le_of_ble_eq_true rfl), (Nat.le_of_ble_eq_true rfl)⟩ dX2_withClocks_37 (fun _ _ z => False.elim z) (fun v9 ws9 h13 => ?_)
              obtain ⟨r15, rfl, hw9⟩ := h13
              subst ws9
              dsimp only [mPush]
              refine r_i2l hX dX2_withClocks_40 ?_
              refine r_callS hX (c_X2_added _ _ _ _) ks_X2_247 rfl rfl (Nat.le_of_ble_eq_true rfl) ⟨(Nat.le_of_ble_eq_true rfl), (Nat.le_of_ble_eq_true rfl)⟩ ⟨(Nat.le_of_ble_eq_true rfl), (Nat.le_of_ble_eq_true rfl)⟩ dX2_withClocks_41 (fun _ _ z => False.elim z) (fun v9 ws9 h16 => ?_)
              obtain ⟨r18, rfl, hw9⟩ := h16
              subst ws9
              dsimp only [mPush]
              refine r_lstore_n hX dX2_withClocks_44 rfl (by decide) rfl ?_
              refine r_iinc hX dX2_withClocks_45 rfl (by decide) rfl ?_
              refine r_goto (tgt := 18) hX dX2_withClocks_48 (by decide) ?_
              exact r_loc (k' := 0) (n' := 0) (by exact ⟨rfl, rfl, rfl, rfl, nI_inc' _, trivial⟩) (by decide) (by decide) (ih18 (j6 + 1) _ (by omega) (by omega) _ hK8)
        exact r_loc (k' := 0) (n' := 0) (by exact ⟨rfl, rfl, rfl, rfl, rfl, trivial⟩) (by decide) (by decide) (L18 (6 + 1) 0 _ (by omega) (by omega) _ hK3)
  exact r_loc (k' := 0) (n' := 0) (by exact ⟨rfl, rfl, rfl, rfl, trivial⟩) (by decide) (by decide) (L5 (3 + 1) 0 _ (by omega) (by omega) _ rfl)
theorem dX2_withDatePairs_0 : decode cX2_withDatePairs 0 = .ok (.lload_n 1, 1) := by decide +kernel
theorem dX2_withDatePairs_1 : decode cX2_withDatePairs 1 = .ok (.lstore_n 3, 1) := by decide +kernel
theorem dX2_withDatePairs_2 : decode cX2_withDatePairs 2 = .ok (.iconst 0, 1) := by decide +kernel
theorem dX2_withDatePairs_3 : decode cX2_withDatePairs 3 = .ok (.istore 5, 2) := by decide +kernel
theorem dX2_withDatePairs_5 : decode cX2_withDatePairs 5 = .ok (.iload 5, 2) := by decide +kernel
theorem dX2_withDatePairs_7 : decode cX2_withDatePairs 7 = .ok (.aload_n 0, 1) := by decide +kernel
theorem dX2_withDatePairs_8 : decode cX2_withDatePairs 8 = .ok (.getfield 20, 3) := by decide +kernel
theorem dX2_withDatePairs_11 : decode cX2_withDatePairs 11 = .ok (.arraylength, 1) := by decide +kernel
theorem dX2_withDatePairs_12 : decode cX2_withDatePairs 12 = .ok (.if_icmp .ge 89, 3) := by decide +kernel
theorem dX2_withDatePairs_15 : decode cX2_withDatePairs 15 = .ok (.iconst 0, 1) := by decide +kernel
theorem dX2_withDatePairs_16 : decode cX2_withDatePairs 16 = .ok (.istore 6, 2) := by decide +kernel
theorem dX2_withDatePairs_18 : decode cX2_withDatePairs 18 = .ok (.iload 6, 2) := by decide +kernel
theorem dX2_withDatePairs_20 : decode cX2_withDatePairs 20 = .ok (.aload_n 0, 1) := by decide +kernel
theorem dX2_withDatePairs_21 : decode cX2_withDatePairs 21 = .ok (.getfield 20, 3) := by decide +kernel
theorem dX2_withDatePairs_24 : decode cX2_withDatePairs 24 = .ok (.arraylength, 1) := by decide +kernel
theorem dX2_withDatePairs_25 : decode cX2_withDatePairs 25 = .ok (.if_icmp .ge 70, 3) := by decide +kernel
theorem dX2_withDatePairs_28 : decode cX2_withDatePairs 28 = .ok (.lload_n 3, 1) := by decide +kernel
theorem dX2_withDatePairs_29 : decode cX2_withDatePairs 29 = .ok (.aload_n 0, 1) := by decide +kernel
theorem dX2_withDatePairs_30 : decode cX2_withDatePairs 30 = .ok (.getfield 20, 3) := by decide +kernel
theorem dX2_withDatePairs_33 : decode cX2_withDatePairs 33 = .ok (.iload 5, 2) := by decide +kernel
theorem dX2_withDatePairs_35 : decode cX2_withDatePairs 35 = .ok (.invokestatic 84, 3) := by decide +kernel
theorem dX2_withDatePairs_38 : decode cX2_withDatePairs 38 = .ok (.aload_n 0, 1) := by decide +kernel
theorem dX2_withDatePairs_39 : decode cX2_withDatePairs 39 = .ok (.getfield 20, 3) := by decide +kernel
theorem dX2_withDatePairs_42 : decode cX2_withDatePairs 42 = .ok (.iload 6, 2) := by decide +kernel
theorem dX2_withDatePairs_44 : decode cX2_withDatePairs 44 = .ok (.invokestatic 84, 3) := by decide +kernel
theorem dX2_withDatePairs_47 : decode cX2_withDatePairs 47 = .ok (.invokevirtual 179, 3) := by decide +kernel
theorem dX2_withDatePairs_50 : decode cX2_withDatePairs 50 = .ok (.i2l, 1) := by decide +kernel
theorem dX2_withDatePairs_51 : decode cX2_withDatePairs 51 = .ok (.invokestatic 247, 3) := by decide +kernel
theorem dX2_withDatePairs_54 : decode cX2_withDatePairs 54 = .ok (.lstore_n 3, 1) := by decide +kernel
theorem dX2_withDatePairs_55 : decode cX2_withDatePairs 55 = .ok (.lload_n 3, 1) := by decide +kernel
theorem dX2_withDatePairs_56 : decode cX2_withDatePairs 56 = .ok (.aload_n 0, 1) := by decide +kernel
theorem dX2_withDatePairs_57 : decode cX2_withDatePairs 57 = .ok (.getfield 20, 3) := by decide +kernel
theorem dX2_withDatePairs_60 : decode cX2_withDatePairs 60 = .ok (.iload 5, 2) := by decide +kernel
theorem dX2_withDatePairs_62 : decode cX2_withDatePairs 62 = .ok (.invokestatic 84, 3) := by decide +kernel
theorem dX2_withDatePairs_65 : decode cX2_withDatePairs 65 = .ok (.aload_n 0, 1) := by decide +kernel
theorem dX2_withDatePairs_66 : decode cX2_withDatePairs 66 = .ok (.getfield 20, 3) := by decide +kernel
theorem dX2_withDatePairs_69 : decode cX2_withDatePairs 69 = .ok (.iload 6, 2) := by decide +kernel
theorem dX2_withDatePairs_71 : decode cX2_withDatePairs 71 = .ok (.invokestatic 84, 3) := by decide +kernel
theorem dX2_withDatePairs_74 : decode cX2_withDatePairs 74 = .ok (.invokevirtual 360, 3) := by decide +kernel
theorem dX2_withDatePairs_77 : decode cX2_withDatePairs 77 = .ok (.ifCond .eq 7, 3) := by decide +kernel
theorem dX2_withDatePairs_80 : decode cX2_withDatePairs 80 = .ok (.lconst 1, 1) := by decide +kernel
theorem dX2_withDatePairs_81 : decode cX2_withDatePairs 81 = .ok (.goto 4, 3) := by decide +kernel
theorem dX2_withDatePairs_84 : decode cX2_withDatePairs 84 = .ok (.lconst 0, 1) := by decide +kernel
theorem dX2_withDatePairs_85 : decode cX2_withDatePairs 85 = .ok (.invokestatic 247, 3) := by decide +kernel
theorem dX2_withDatePairs_88 : decode cX2_withDatePairs 88 = .ok (.lstore_n 3, 1) := by decide +kernel
theorem dX2_withDatePairs_89 : decode cX2_withDatePairs 89 = .ok (.iinc 6 1, 3) := by decide +kernel
theorem dX2_withDatePairs_92 : decode cX2_withDatePairs 92 = .ok (.goto (-74), 3) := by decide +kernel
theorem dX2_withDatePairs_95 : decode cX2_withDatePairs 95 = .ok (.iinc 5 1, 3) := by decide +kernel
theorem dX2_withDatePairs_98 : decode cX2_withDatePairs 98 = .ok (.goto (-93), 3) := by decide +kernel
theorem dX2_withDatePairs_101 : decode cX2_withDatePairs 101 = .ok (.lload_n 3, 1) := by decide +kernel
theorem dX2_withDatePairs_102 : decode cX2_withDatePairs 102 = .ok (.lreturn, 1) := by decide +kernel
set_option maxHeartbeats 4000000 in
set_option maxRecDepth 20000 in
theorem c_X2_withDatePairs (ad : Nat → Nat) (cs : ClassId × ClassId × ClassId) (K : mK) (rest : va_W) (p0 : Int64) : mCt (mTy cs) yX2_withDatePairs cX2_withDatePairs 7 (some .long) ⟨3, 0, 0, 67⟩ [.ref (ad 0), .long p0] (mWd ad cs K rest) (mWl ad cs K rest) mNo := by
  refine mCt.of (by decide +kernel) (Nat.le_of_ble_eq_true rfl) (fun X hX hE => ?_)
  have hX : mOK X RX2 cX2_withDatePairs 7 ⟨3, 0, 0, 67⟩ [] (mTy cs) := hX
  refine r_lload_n hX dX2_withDatePairs_0 rfl rfl ?_
  refine r_lstore_n hX dX2_withDatePairs_1 rfl (by decide) rfl ?_
  refine r_iconst (v := 0) hX dX2_withDatePairs_2 (by decide) ?_
  refine r_istore hX dX2_withDatePairs_3 (by decide) rfl ?_
  have L5 : ∀ (N4 j1 : Nat) (x2 : Int64), 4 - j1 < N4 → j1 ≤ 4 → ∀ K3 : mK, K3.1 = K.1 → mV X 5 [(0, some (.ref (ad 0))), (1, some (.long p0)), (3, some (.long x2)), (5, some (.int (nI j1)))] [] (mWd ad cs K3 rest) 0 0 := by
    intro N4
    induction N4 with
    | zero => intro j1 x2; omega
    | succ N4 ih5 =>
      intro j1 x2 hN5 hj1e K3 hK3
      refine r_iload hX dX2_withDatePairs_5 rfl ?_
      refine r_aload_n hX dX2_withDatePairs_7 rfl rfl ?_
      refine r_get hX kf_X2_20 0 rfl rfl dX2_withDatePairs_8 ?_
      refine r_alen (v := nI 4) hX 3 2 rfl rfl rfl dX2_withDatePairs_11 ?_
      refine r_icmp_ge (tgt := 101) hX dX2_withDatePairs_12 (by decide) (fun c5 => ?_) (fun c5 => ?_)
      · refine r_lload_n hX dX2_withDatePairs_101 rfl rfl ?_
        exact r_lret hX hE dX2_withDatePairs_102 (Nat.le_of_ble_eq_true rfl) (Nat.le_of_ble_eq_true rfl) ⟨_, K3, hK3, rfl, rfl⟩
      · have hj1 : j1 < 4 := mlt (by first | rfl | decide) (by decide) hj1e c5
        refine r_iconst (v := 0) hX dX2_withDatePairs_15 (by decide) ?_
        refine r_istore hX dX2_withDatePairs_16 (by decide) rfl ?_
        have L18 : ∀ (N9 j6 : Nat) (x7 : Int64), 4 - j6 < N9 → j6 ≤ 4 → ∀ K8 : mK, K8.1 = K.1 → mV X 18 [(0, some (.ref (ad 0))), (1, some (.long p0)), (3, some (.long x7)), (5, some (.int (nI j1))), (6, some (.int (nI j6)))] [] (mWd ad cs K8 rest) 0 0 := by
          intro N9
          induction N9 with
          | zero => intro j6 x7; omega
          | succ N9 ih18 =>
            intro j6 x7 hN18 hj6e K8 hK8
            refine r_iload hX dX2_withDatePairs_18 rfl ?_
            refine r_aload_n hX dX2_withDatePairs_20 rfl rfl ?_
            refine r_get hX kf_X2_20 0 rfl rfl dX2_withDatePairs_21 ?_
            refine r_alen (v := nI 4) hX 3 2 rfl rfl rfl dX2_withDatePairs_24 ?_
            refine r_icmp_ge (tgt := 95) hX dX2_withDatePairs_25 (by decide) (fun c10 => ?_) (fun c10 => ?_)
            · refine r_iinc hX dX2_withDatePairs_95 rfl (by decide) rfl ?_
              refine r_goto (tgt := 5) hX dX2_withDatePairs_98 (by decide) ?_
              exact r_loc (k' := 0) (n' := 0) (by exact ⟨rfl, rfl, rfl, nI_inc' _, trivial⟩) (by decide) (by decide) (ih5 (j1 + 1) _ (by omega) (by omega) _ hK8)
            · have hj6 : j6 < 4 := mlt (by first | rfl | decide) (by decide) hj6e c10
              refine r_lload_n hX dX2_withDatePairs_28 rfl rfl ?_
              refine r_aload_n hX dX2_withDatePairs_29 rfl rfl ?_
              refine r_get hX kf_X2_20 0 rfl rfl dX2_withDatePairs_30 ?_
              refine r_iload hX dX2_withDatePairs_33 rfl ?_
              refine r_callS hX (c_X2_at_ok ad cs _ 3 _ 4 0 rfl (by decide) j1 hj1) ks_X2_84 rfl rfl (Nat.le_of_ble_eq_true rfl) ⟨(Nat.le_of_ble_eq_true rfl), (Nat.le_of_ble_eq_true rfl)⟩ ⟨(Nat.le_of_ble_eq_true rfl), (Nat.le_of_ble_eq_true rfl)⟩ dX2_withDatePairs_35 (fun _ _ z => False.elim z) (fun v9 ws9 h11 => ?_)
              obtain ⟨rfl, hw9⟩ := h11
              subst ws9
              dsimp only [mPush]
              refine r_aload_n hX dX2_withDatePairs_38 rfl rfl ?_
              refine r_get hX kf_X2_20 0 rfl rfl dX2_withDatePairs_39 ?_
              refine r_iload hX dX2_withDatePairs_42 rfl ?_
              refine r_callS hX (c_X2_at_ok ad cs _ 3 _ 4 0 rfl (by decide) j6 hj6) ks_X2_84 rfl rfl (Nat.le_of_ble_eq_true rfl) ⟨(Nat.le_of_ble_eq_true rfl), (Nat.le_of_ble_eq_true rfl)⟩ ⟨(Nat.le_of_ble_eq_true rfl), (Nat.le_of_ble_eq_true rfl)⟩ dX2_withDatePairs_44 (fun _ _ z => False.elim z) (fun v9 ws9 h13 => ?_)
              obtain ⟨rfl, hw9⟩ := h13
              subst ws9
              dsimp only [mPush]
              refine r_callV hX (c_X1_orderTo _ _ (j1 + 5) _ _ _ _ (mWd_loc (d := j1) (by omega)) (j6 + 5) _ _ _ _ (mWd_loc (d := j6) (by omega))) kv_X2_179 (j1 + 5) (mWd_loc (d := j1) (by omega)) rfl rfl rfl (Nat.le_of_ble_eq_true rfl) ⟨(Nat.le_of_ble_eq_true rfl), (Nat.le_of_ble_eq_true rfl)⟩ ⟨(Nat.le_of_ble_eq_true rfl), (Nat.le_of_ble_eq_true rfl)⟩ dX2_withDatePairs_47 (fun _ _ z => False.elim z) (fun v9 ws9 h15 => ?_)
              obtain ⟨r17, rfl, hw9⟩ := h15
              subst ws9
              dsimp only [mPush]
              refine r_i2l hX dX2_withDatePairs_50 ?_
              refine r_callS hX (c_X2_added _ _ _ _) ks_X2_247 rfl rfl (Nat.le_of_ble_eq_true rfl) ⟨(Nat.le_of_ble_eq_true rfl), (Nat.le_of_ble_eq_true rfl)⟩ ⟨(Nat.le_of_ble_eq_true rfl), (Nat.le_of_ble_eq_true rfl)⟩ dX2_withDatePairs_51 (fun _ _ z => False.elim z) (fun v9 ws9 h18 => ?_)
              obtain ⟨r20, rfl, hw9⟩ := h18
              subst ws9
              dsimp only [mPush]
              refine r_lstore_n hX dX2_withDatePairs_54 rfl (by decide) rfl ?_
              refine r_lload_n hX dX2_withDatePairs_55 rfl rfl ?_
              refine r_aload_n hX dX2_withDatePairs_56 rfl rfl ?_
              refine r_get hX kf_X2_20 0 rfl rfl dX2_withDatePairs_57 ?_
              refine r_iload hX dX2_withDatePairs_60 rfl ?_
              refine r_callS hX (c_X2_at_ok ad cs _ 3 _ 4 0 rfl (by decide) j1 hj1) ks_X2_84 rfl rfl (Nat.le_of_ble_eq_true rfl) ⟨(Nat.le_of_ble_eq_true rfl), (Nat.le_of_ble_eq_true rfl)⟩ ⟨(Nat.le_of_ble_eq_true rfl), (Nat.le_of_ble_eq_true rfl)⟩ dX2_withDatePairs_62 (fun _ _ z => False.elim z) (fun v9 ws9 h21 => ?_)
              obtain ⟨rfl, hw9⟩ := h21
              subst ws9
              dsimp only [mPush]
              refine r_aload_n hX dX2_withDatePairs_65 rfl rfl ?_
              refine r_get hX kf_X2_20 0 rfl rfl dX2_withDatePairs_66 ?_
              refine r_iload hX dX2_withDatePairs_69 rfl ?_
              refine r_callS hX (c_X2_at_ok ad cs _ 3 _ 4 0 rfl (by decide) j6 hj6) ks_X2_84 rfl rfl (Nat.le_of_ble_eq_true rfl) ⟨(Nat.le_of_ble_eq_true rfl), (Nat.le_of_ble_eq_true rfl)⟩ ⟨(Nat.le_of_ble_eq_true rfl), (Nat.le_of_ble_eq_true rfl)⟩ dX2_withDatePairs_71 (fun _ _ z => False.elim z) (fun v9 ws9 h23 => ?_)
              obtain ⟨rfl, hw9⟩ := h23
              subst ws9
              dsimp only [mPush]
              refine r_callV hX (c_X1_isAlike _ _ (j1 + 5) _ _ _ _ (mWd_loc (d := j1) (by omega)) (j6 + 5) _ _ _ _ (mWd_loc (d := j6) (by omega))) kv_X2_360 (j1 + 5) (mWd_loc (d := j1) (by omega)) rfl rfl rfl (Nat.le_of_ble_eq_true rfl) ⟨(Nat.le_of_ble_eq_true rfl), (Nat.le_of_ble_eq_true rfl)⟩ ⟨(Nat.le_of_ble_eq_true rfl), (Nat.le_of_ble_eq_true rfl)⟩ dX2_withDatePairs_74 (fun _ _ z => False.elim z) (fun v9 ws9 h25 => ?_)
              obtain ⟨r27, br27, rfl, hw9⟩ := h25
              subst ws9
              dsimp only [mPush]
              refine r_if_eq (tgt := 84) hX dX2_withDatePairs_77 (by decide) (fun c28 => ?_) (fun c28 => ?_)
              · refine r_lconst (v := 0) hX dX2_withDatePairs_84 (by decide) ?_
                refine r_callS hX (c_X2_added _ _ _ _) ks_X2_247 rfl rfl (Nat.le_of_ble_eq_true rfl) ⟨(Nat.le_of_ble_eq_true rfl), (Nat.le_of_ble_eq_true rfl)⟩ ⟨(Nat.le_of_ble_eq_true rfl), (Nat.le_of_ble_eq_true rfl)⟩ dX2_withDatePairs_85 (fun _ _ z => False.elim z) (fun v9 ws9 h29 => ?_)
                obtain ⟨r31, rfl, hw9⟩ := h29
                subst ws9
                dsimp only [mPush]
                refine r_lstore_n hX dX2_withDatePairs_88 rfl (by decide) rfl ?_
                refine r_iinc hX dX2_withDatePairs_89 rfl (by decide) rfl ?_
                refine r_goto (tgt := 18) hX dX2_withDatePairs_92 (by decide) ?_
                exact r_loc (k' := 0) (n' := 0) (by exact ⟨rfl, rfl, rfl, rfl, nI_inc' _, trivial⟩) (by decide) (by decide) (ih18 (j6 + 1) _ (by omega) (by omega) _ hK8)
              · refine r_lconst (v := 1) hX dX2_withDatePairs_80 (by decide) ?_
                refine r_goto (tgt := 85) hX dX2_withDatePairs_81 (by decide) ?_
                refine r_callS hX (c_X2_added _ _ _ _) ks_X2_247 rfl rfl (Nat.le_of_ble_eq_true rfl) ⟨(Nat.le_of_ble_eq_true rfl), (Nat.le_of_ble_eq_true rfl)⟩ ⟨(Nat.le_of_ble_eq_true rfl), (Nat.le_of_ble_eq_true rfl)⟩ dX2_withDatePairs_85 (fun _ _ z => False.elim z) (fun v9 ws9 h32 => ?_)
                obtain ⟨r34, rfl, hw9⟩ := h32
                subst ws9
                dsimp only [mPush]
                refine r_lstore_n hX dX2_withDatePairs_88 rfl (by decide) rfl ?_
                refine r_iinc hX dX2_withDatePairs_89 rfl (by decide) rfl ?_
                refine r_goto (tgt := 18) hX dX2_withDatePairs_92 (by decide) ?_
                exact r_loc (k' := 0) (n' := 0) (by exact ⟨rfl, rfl, rfl, rfl, nI_inc' _, trivial⟩) (by decide) (by decide) (ih18 (j6 + 1) _ (by omega) (by omega) _ hK8)
        exact r_loc (k' := 0) (n' := 0) (by exact ⟨rfl, rfl, rfl, rfl, rfl, trivial⟩) (by decide) (by decide) (L18 (4 + 1) 0 _ (by omega) (by omega) _ hK3)
  exact r_loc (k' := 0) (n' := 0) (by exact ⟨rfl, rfl, rfl, rfl, trivial⟩) (by decide) (by decide) (L5 (4 + 1) 0 _ (by omega) (by omega) _ rfl)
theorem dX2_withClockPairs_0 : decode cX2_withClockPairs 0 = .ok (.lload_n 1, 1) := by decide +kernel
theorem dX2_withClockPairs_1 : decode cX2_withClockPairs 1 = .ok (.lstore_n 3, 1) := by decide +kernel
theorem dX2_withClockPairs_2 : decode cX2_withClockPairs 2 = .ok (.iconst 0, 1) := by decide +kernel
theorem dX2_withClockPairs_3 : decode cX2_withClockPairs 3 = .ok (.istore 5, 2) := by decide +kernel
theorem dX2_withClockPairs_5 : decode cX2_withClockPairs 5 = .ok (.iload 5, 2) := by decide +kernel
theorem dX2_withClockPairs_7 : decode cX2_withClockPairs 7 = .ok (.aload_n 0, 1) := by decide +kernel
theorem dX2_withClockPairs_8 : decode cX2_withClockPairs 8 = .ok (.getfield 24, 3) := by decide +kernel
theorem dX2_withClockPairs_11 : decode cX2_withClockPairs 11 = .ok (.arraylength, 1) := by decide +kernel
theorem dX2_withClockPairs_12 : decode cX2_withClockPairs 12 = .ok (.if_icmp .ge 55, 3) := by decide +kernel
theorem dX2_withClockPairs_15 : decode cX2_withClockPairs 15 = .ok (.iconst 0, 1) := by decide +kernel
theorem dX2_withClockPairs_16 : decode cX2_withClockPairs 16 = .ok (.istore 6, 2) := by decide +kernel
theorem dX2_withClockPairs_18 : decode cX2_withClockPairs 18 = .ok (.iload 6, 2) := by decide +kernel
theorem dX2_withClockPairs_20 : decode cX2_withClockPairs 20 = .ok (.aload_n 0, 1) := by decide +kernel
theorem dX2_withClockPairs_21 : decode cX2_withClockPairs 21 = .ok (.getfield 24, 3) := by decide +kernel
theorem dX2_withClockPairs_24 : decode cX2_withClockPairs 24 = .ok (.arraylength, 1) := by decide +kernel
theorem dX2_withClockPairs_25 : decode cX2_withClockPairs 25 = .ok (.if_icmp .ge 36, 3) := by decide +kernel
theorem dX2_withClockPairs_28 : decode cX2_withClockPairs 28 = .ok (.lload_n 3, 1) := by decide +kernel
theorem dX2_withClockPairs_29 : decode cX2_withClockPairs 29 = .ok (.aload_n 0, 1) := by decide +kernel
theorem dX2_withClockPairs_30 : decode cX2_withClockPairs 30 = .ok (.getfield 24, 3) := by decide +kernel
theorem dX2_withClockPairs_33 : decode cX2_withClockPairs 33 = .ok (.iload 5, 2) := by decide +kernel
theorem dX2_withClockPairs_35 : decode cX2_withClockPairs 35 = .ok (.invokestatic 84, 3) := by decide +kernel
theorem dX2_withClockPairs_38 : decode cX2_withClockPairs 38 = .ok (.aload_n 0, 1) := by decide +kernel
theorem dX2_withClockPairs_39 : decode cX2_withClockPairs 39 = .ok (.getfield 24, 3) := by decide +kernel
theorem dX2_withClockPairs_42 : decode cX2_withClockPairs 42 = .ok (.iload 6, 2) := by decide +kernel
theorem dX2_withClockPairs_44 : decode cX2_withClockPairs 44 = .ok (.invokestatic 84, 3) := by decide +kernel
theorem dX2_withClockPairs_47 : decode cX2_withClockPairs 47 = .ok (.invokevirtual 179, 3) := by decide +kernel
theorem dX2_withClockPairs_50 : decode cX2_withClockPairs 50 = .ok (.i2l, 1) := by decide +kernel
theorem dX2_withClockPairs_51 : decode cX2_withClockPairs 51 = .ok (.invokestatic 247, 3) := by decide +kernel
theorem dX2_withClockPairs_54 : decode cX2_withClockPairs 54 = .ok (.lstore_n 3, 1) := by decide +kernel
theorem dX2_withClockPairs_55 : decode cX2_withClockPairs 55 = .ok (.iinc 6 1, 3) := by decide +kernel
theorem dX2_withClockPairs_58 : decode cX2_withClockPairs 58 = .ok (.goto (-40), 3) := by decide +kernel
theorem dX2_withClockPairs_61 : decode cX2_withClockPairs 61 = .ok (.iinc 5 1, 3) := by decide +kernel
theorem dX2_withClockPairs_64 : decode cX2_withClockPairs 64 = .ok (.goto (-59), 3) := by decide +kernel
theorem dX2_withClockPairs_67 : decode cX2_withClockPairs 67 = .ok (.lload_n 3, 1) := by decide +kernel
theorem dX2_withClockPairs_68 : decode cX2_withClockPairs 68 = .ok (.lreturn, 1) := by decide +kernel
set_option maxHeartbeats 4000000 in
set_option maxRecDepth 20000 in
theorem c_X2_withClockPairs (ad : Nat → Nat) (cs : ClassId × ClassId × ClassId) (K : mK) (rest : va_W) (p0 : Int64) : mCt (mTy cs) yX2_withClockPairs cX2_withClockPairs 7 (some .long) ⟨3, 0, 0, 67⟩ [.ref (ad 0), .long p0] (mWd ad cs K rest) (mWl ad cs K rest) mNo := by
  refine mCt.of (by decide +kernel) (Nat.le_of_ble_eq_true rfl) (fun X hX hE => ?_)
  have hX : mOK X RX2 cX2_withClockPairs 7 ⟨3, 0, 0, 67⟩ [] (mTy cs) := hX
  refine r_lload_n hX dX2_withClockPairs_0 rfl rfl ?_
  refine r_lstore_n hX dX2_withClockPairs_1 rfl (by decide) rfl ?_
  refine r_iconst (v := 0) hX dX2_withClockPairs_2 (by decide) ?_
  refine r_istore hX dX2_withClockPairs_3 (by decide) rfl ?_
  have L5 : ∀ (N4 j1 : Nat) (x2 : Int64), 3 - j1 < N4 → j1 ≤ 3 → ∀ K3 : mK, K3.1 = K.1 → mV X 5 [(0, some (.ref (ad 0))), (1, some (.long p0)), (3, some (.long x2)), (5, some (.int (nI j1)))] [] (mWd ad cs K3 rest) 0 0 := by
    intro N4
    induction N4 with
    | zero => intro j1 x2; omega
    | succ N4 ih5 =>
      intro j1 x2 hN5 hj1e K3 hK3
      refine r_iload hX dX2_withClockPairs_5 rfl ?_
      refine r_aload_n hX dX2_withClockPairs_7 rfl rfl ?_
      refine r_get hX kf_X2_24 0 rfl rfl dX2_withClockPairs_8 ?_
      refine r_alen (v := nI 3) hX 4 2 rfl rfl rfl dX2_withClockPairs_11 ?_
      refine r_icmp_ge (tgt := 67) hX dX2_withClockPairs_12 (by decide) (fun c5 => ?_) (fun c5 => ?_)
      · refine r_lload_n hX dX2_withClockPairs_67 rfl rfl ?_
        exact r_lret hX hE dX2_withClockPairs_68 (Nat.le_of_ble_eq_true rfl) (Nat.le_of_ble_eq_true rfl) ⟨_, K3, hK3, rfl, rfl⟩
      · have hj1 : j1 < 3 := mlt (by first | rfl | decide) (by decide) hj1e c5
        refine r_iconst (v := 0) hX dX2_withClockPairs_15 (by decide) ?_
        refine r_istore hX dX2_withClockPairs_16 (by decide) rfl ?_
        have L18 : ∀ (N9 j6 : Nat) (x7 : Int64), 3 - j6 < N9 → j6 ≤ 3 → ∀ K8 : mK, K8.1 = K.1 → mV X 18 [(0, some (.ref (ad 0))), (1, some (.long p0)), (3, some (.long x7)), (5, some (.int (nI j1))), (6, some (.int (nI j6)))] [] (mWd ad cs K8 rest) 0 0 := by
          intro N9
          induction N9 with
          | zero => intro j6 x7; omega
          | succ N9 ih18 =>
            intro j6 x7 hN18 hj6e K8 hK8
            refine r_iload hX dX2_withClockPairs_18 rfl ?_
            refine r_aload_n hX dX2_withClockPairs_20 rfl rfl ?_
            refine r_get hX kf_X2_24 0 rfl rfl dX2_withClockPairs_21 ?_
            refine r_alen (v := nI 3) hX 4 2 rfl rfl rfl dX2_withClockPairs_24 ?_
            refine r_icmp_ge (tgt := 61) hX dX2_withClockPairs_25 (by decide) (fun c10 => ?_) (fun c10 => ?_)
            · refine r_iinc hX dX2_withClockPairs_61 rfl (by decide) rfl ?_
              refine r_goto (tgt := 5) hX dX2_withClockPairs_64 (by decide) ?_
              exact r_loc (k' := 0) (n' := 0) (by exact ⟨rfl, rfl, rfl, nI_inc' _, trivial⟩) (by decide) (by decide) (ih5 (j1 + 1) _ (by omega) (by omega) _ hK8)
            · have hj6 : j6 < 3 := mlt (by first | rfl | decide) (by decide) hj6e c10
              refine r_lload_n hX dX2_withClockPairs_28 rfl rfl ?_
              refine r_aload_n hX dX2_withClockPairs_29 rfl rfl ?_
              refine r_get hX kf_X2_24 0 rfl rfl dX2_withClockPairs_30 ?_
              refine r_iload hX dX2_withClockPairs_33 rfl ?_
              refine r_callS hX (c_X2_at_ok ad cs _ 4 _ 3 4 rfl (by decide) j1 hj1) ks_X2_84 rfl rfl (Nat.le_of_ble_eq_true rfl) ⟨(Nat.le_of_ble_eq_true rfl), (Nat.le_of_ble_eq_true rfl)⟩ ⟨(Nat.le_of_ble_eq_true rfl), (Nat.le_of_ble_eq_true rfl)⟩ dX2_withClockPairs_35 (fun _ _ z => False.elim z) (fun v9 ws9 h11 => ?_)
              obtain ⟨rfl, hw9⟩ := h11
              subst ws9
              dsimp only [mPush]
              refine r_aload_n hX dX2_withClockPairs_38 rfl rfl ?_
              refine r_get hX kf_X2_24 0 rfl rfl dX2_withClockPairs_39 ?_
              refine r_iload hX dX2_withClockPairs_42 rfl ?_
              refine r_callS hX (c_X2_at_ok ad cs _ 4 _ 3 4 rfl (by decide) j6 hj6) ks_X2_84 rfl rfl (Nat.le_of_ble_eq_true rfl) ⟨(Nat.le_of_ble_eq_true rfl), (Nat.le_of_ble_eq_true rfl)⟩ ⟨(Nat.le_of_ble_eq_true rfl), (Nat.le_of_ble_eq_true rfl)⟩ dX2_withClockPairs_44 (fun _ _ z => False.elim z) (fun v9 ws9 h13 => ?_)
              obtain ⟨rfl, hw9⟩ := h13
              subst ws9
              dsimp only [mPush]
              refine r_callV hX (c_X1_orderTo _ _ (j1 + 4 + 5) _ _ _ _ (mWd_loc (d := j1 + 4) (by omega)) (j6 + 4 + 5) _ _ _ _ (mWd_loc (d := j6 + 4) (by omega))) kv_X2_179 (j1 + 4 + 5) (mWd_loc (d := j1 + 4) (by omega)) rfl rfl rfl (Nat.le_of_ble_eq_true rfl) ⟨(Nat.le_of_ble_eq_true rfl), (Nat.le_of_ble_eq_true rfl)⟩ ⟨(Nat.le_of_ble_eq_true rfl), (Nat.le_of_ble_eq_true rfl)⟩ dX2_withClockPairs_47 (fun _ _ z => False.elim z) (fun v9 ws9 h15 => ?_)
              obtain ⟨r17, rfl, hw9⟩ := h15
              subst ws9
              dsimp only [mPush]
              refine r_i2l hX dX2_withClockPairs_50 ?_
              refine r_callS hX (c_X2_added _ _ _ _) ks_X2_247 rfl rfl (Nat.le_of_ble_eq_true rfl) ⟨(Nat.le_of_ble_eq_true rfl), (Nat.le_of_ble_eq_true rfl)⟩ ⟨(Nat.le_of_ble_eq_true rfl), (Nat.le_of_ble_eq_true rfl)⟩ dX2_withClockPairs_51 (fun _ _ z => False.elim z) (fun v9 ws9 h18 => ?_)
              obtain ⟨r20, rfl, hw9⟩ := h18
              subst ws9
              dsimp only [mPush]
              refine r_lstore_n hX dX2_withClockPairs_54 rfl (by decide) rfl ?_
              refine r_iinc hX dX2_withClockPairs_55 rfl (by decide) rfl ?_
              refine r_goto (tgt := 18) hX dX2_withClockPairs_58 (by decide) ?_
              exact r_loc (k' := 0) (n' := 0) (by exact ⟨rfl, rfl, rfl, rfl, nI_inc' _, trivial⟩) (by decide) (by decide) (ih18 (j6 + 1) _ (by omega) (by omega) _ hK8)
        exact r_loc (k' := 0) (n' := 0) (by exact ⟨rfl, rfl, rfl, rfl, rfl, trivial⟩) (by decide) (by decide) (L18 (3 + 1) 0 _ (by omega) (by omega) _ hK3)
  exact r_loc (k' := 0) (n' := 0) (by exact ⟨rfl, rfl, rfl, rfl, trivial⟩) (by decide) (by decide) (L5 (3 + 1) 0 _ (by omega) (by omega) _ rfl)
theorem dX2_withHouse_0 : decode cX2_withHouse 0 = .ok (.lload_n 1, 1) := by decide +kernel
theorem dX2_withHouse_1 : decode cX2_withHouse 1 = .ok (.lstore_n 3, 1) := by decide +kernel
theorem dX2_withHouse_2 : decode cX2_withHouse 2 = .ok (.iconst 0, 1) := by decide +kernel
theorem dX2_withHouse_3 : decode cX2_withHouse 3 = .ok (.istore 5, 2) := by decide +kernel
theorem dX2_withHouse_5 : decode cX2_withHouse 5 = .ok (.iload 5, 2) := by decide +kernel
theorem dX2_withHouse_7 : decode cX2_withHouse 7 = .ok (.iconst 4, 1) := by decide +kernel
theorem dX2_withHouse_8 : decode cX2_withHouse 8 = .ok (.if_icmp .ge 21, 3) := by decide +kernel
theorem dX2_withHouse_11 : decode cX2_withHouse 11 = .ok (.lload_n 3, 1) := by decide +kernel
theorem dX2_withHouse_12 : decode cX2_withHouse 12 = .ok (.aload_n 0, 1) := by decide +kernel
theorem dX2_withHouse_13 : decode cX2_withHouse 13 = .ok (.iload 5, 2) := by decide +kernel
theorem dX2_withHouse_15 : decode cX2_withHouse 15 = .ok (.invokevirtual 380, 3) := by decide +kernel
theorem dX2_withHouse_18 : decode cX2_withHouse 18 = .ok (.i2l, 1) := by decide +kernel
theorem dX2_withHouse_19 : decode cX2_withHouse 19 = .ok (.invokestatic 247, 3) := by decide +kernel
theorem dX2_withHouse_22 : decode cX2_withHouse 22 = .ok (.lstore_n 3, 1) := by decide +kernel
theorem dX2_withHouse_23 : decode cX2_withHouse 23 = .ok (.iinc 5 1, 3) := by decide +kernel
theorem dX2_withHouse_26 : decode cX2_withHouse 26 = .ok (.goto (-21), 3) := by decide +kernel
theorem dX2_withHouse_29 : decode cX2_withHouse 29 = .ok (.lload_n 3, 1) := by decide +kernel
theorem dX2_withHouse_30 : decode cX2_withHouse 30 = .ok (.lreturn, 1) := by decide +kernel
set_option maxHeartbeats 4000000 in
set_option maxRecDepth 20000 in
theorem c_X2_withHouse (ad : Nat → Nat) (cs : ClassId × ClassId × ClassId) (K : mK) (rest : va_W) (p0 : Int64) : mCt (mTy cs) yX2_withHouse cX2_withHouse 6 (some .long) ⟨5, 0, 0, 110⟩ [.ref (ad 0), .long p0] (mWd ad cs K rest) (mWl ad cs K rest) mNo := by
  refine mCt.of (by decide +kernel) (Nat.le_of_ble_eq_true rfl) (fun X hX hE => ?_)
  have hX : mOK X RX2 cX2_withHouse 6 ⟨5, 0, 0, 110⟩ [] (mTy cs) := hX
  refine r_lload_n hX dX2_withHouse_0 rfl rfl ?_
  refine r_lstore_n hX dX2_withHouse_1 rfl (by decide) rfl ?_
  refine r_iconst (v := 0) hX dX2_withHouse_2 (by decide) ?_
  refine r_istore hX dX2_withHouse_3 (by decide) rfl ?_
  have L5 : ∀ (N4 j1 : Nat) (x2 : Int64), 4 - j1 < N4 → j1 ≤ 4 → ∀ K3 : mK, K3.1 = K.1 → mV X 5 [(0, some (.ref (ad 0))), (1, some (.long p0)), (3, some (.long x2)), (5, some (.int (nI j1)))] [] (mWd ad cs K3 rest) 0 0 := by
    intro N4
    induction N4 with
    | zero => intro j1 x2; omega
    | succ N4 ih5 =>
      intro j1 x2 hN5 hj1e K3 hK3
      refine r_iload hX dX2_withHouse_5 rfl ?_
      refine r_iconst (v := 4) hX dX2_withHouse_7 (by decide) ?_
      refine r_icmp_ge (tgt := 29) hX dX2_withHouse_8 (by decide) (fun c5 => ?_) (fun c5 => ?_)
      · refine r_lload_n hX dX2_withHouse_29 rfl rfl ?_
        exact r_lret hX hE dX2_withHouse_30 (Nat.le_of_ble_eq_true rfl) (Nat.le_of_ble_eq_true rfl) ⟨_, K3, hK3, rfl, rfl⟩
      · have hj1 : j1 < 4 := mlt (by first | rfl | decide) (by decide) hj1e c5
        refine r_lload_n hX dX2_withHouse_11 rfl rfl ?_
        refine r_aload_n hX dX2_withHouse_12 rfl rfl ?_
        refine r_iload hX dX2_withHouse_13 rfl ?_
        refine r_callV hX (c_X2_house_ok _ _ _ _ j1 hj1) kv_X2_380 0 rfl rfl rfl rfl (Nat.le_of_ble_eq_true rfl) ⟨(Nat.le_of_ble_eq_true rfl), (Nat.le_of_ble_eq_true rfl)⟩ ⟨(Nat.le_of_ble_eq_true rfl), (Nat.le_of_ble_eq_true rfl)⟩ dX2_withHouse_15 (fun _ _ z => False.elim z) (fun v9 ws9 h6 => ?_)
        obtain ⟨r8, K9, hK9, rfl, hw9⟩ := h6
        subst ws9
        dsimp only [mPush]
        refine r_i2l hX dX2_withHouse_18 ?_
        refine r_callS hX (c_X2_added _ _ _ _) ks_X2_247 rfl rfl (Nat.le_of_ble_eq_true rfl) ⟨(Nat.le_of_ble_eq_true rfl), (Nat.le_of_ble_eq_true rfl)⟩ ⟨(Nat.le_of_ble_eq_true rfl), (Nat.le_of_ble_eq_true rfl)⟩ dX2_withHouse_19 (fun _ _ z => False.elim z) (fun v9 ws9 h10 => ?_)
        obtain ⟨r12, rfl, hw9⟩ := h10
        subst ws9
        dsimp only [mPush]
        refine r_lstore_n hX dX2_withHouse_22 rfl (by decide) rfl ?_
        refine r_iinc hX dX2_withHouse_23 rfl (by decide) rfl ?_
        refine r_goto (tgt := 5) hX dX2_withHouse_26 (by decide) ?_
        exact r_loc (k' := 0) (n' := 0) (by exact ⟨rfl, rfl, rfl, nI_inc' _, trivial⟩) (by decide) (by decide) (ih5 (j1 + 1) _ (by omega) (by omega) _ (hK9.trans hK3))
  exact r_loc (k' := 0) (n' := 0) (by exact ⟨rfl, rfl, rfl, rfl, trivial⟩) (by decide) (by decide) (L5 (4 + 1) 0 _ (by omega) (by omega) _ rfl)
theorem dX2_digest_0 : decode cX2_digest 0 = .ok (.ldc2_w 221, 3) := by decide +kernel
theorem dX2_digest_3 : decode cX2_digest 3 = .ok (.lstore_n 1, 1) := by decide +kernel
theorem dX2_digest_4 : decode cX2_digest 4 = .ok (.aload_n 0, 1) := by decide +kernel
theorem dX2_digest_5 : decode cX2_digest 5 = .ok (.lload_n 1, 1) := by decide +kernel
theorem dX2_digest_6 : decode cX2_digest 6 = .ok (.invokevirtual 223, 3) := by decide +kernel
theorem dX2_digest_9 : decode cX2_digest 9 = .ok (.lstore_n 1, 1) := by decide +kernel
theorem dX2_digest_10 : decode cX2_digest 10 = .ok (.aload_n 0, 1) := by decide +kernel
theorem dX2_digest_11 : decode cX2_digest 11 = .ok (.lload_n 1, 1) := by decide +kernel
theorem dX2_digest_12 : decode cX2_digest 12 = .ok (.invokevirtual 226, 3) := by decide +kernel
theorem dX2_digest_15 : decode cX2_digest 15 = .ok (.lstore_n 1, 1) := by decide +kernel
theorem dX2_digest_16 : decode cX2_digest 16 = .ok (.aload_n 0, 1) := by decide +kernel
theorem dX2_digest_17 : decode cX2_digest 17 = .ok (.lload_n 1, 1) := by decide +kernel
theorem dX2_digest_18 : decode cX2_digest 18 = .ok (.invokevirtual 229, 3) := by decide +kernel
theorem dX2_digest_21 : decode cX2_digest 21 = .ok (.lstore_n 1, 1) := by decide +kernel
theorem dX2_digest_22 : decode cX2_digest 22 = .ok (.aload_n 0, 1) := by decide +kernel
theorem dX2_digest_23 : decode cX2_digest 23 = .ok (.lload_n 1, 1) := by decide +kernel
theorem dX2_digest_24 : decode cX2_digest 24 = .ok (.invokevirtual 232, 3) := by decide +kernel
theorem dX2_digest_27 : decode cX2_digest 27 = .ok (.lstore_n 1, 1) := by decide +kernel
theorem dX2_digest_28 : decode cX2_digest 28 = .ok (.aload_n 0, 1) := by decide +kernel
theorem dX2_digest_29 : decode cX2_digest 29 = .ok (.lload_n 1, 1) := by decide +kernel
theorem dX2_digest_30 : decode cX2_digest 30 = .ok (.invokevirtual 235, 3) := by decide +kernel
theorem dX2_digest_33 : decode cX2_digest 33 = .ok (.lstore_n 1, 1) := by decide +kernel
theorem dX2_digest_34 : decode cX2_digest 34 = .ok (.aload_n 0, 1) := by decide +kernel
theorem dX2_digest_35 : decode cX2_digest 35 = .ok (.lload_n 1, 1) := by decide +kernel
theorem dX2_digest_36 : decode cX2_digest 36 = .ok (.invokevirtual 238, 3) := by decide +kernel
theorem dX2_digest_39 : decode cX2_digest 39 = .ok (.lstore_n 1, 1) := by decide +kernel
theorem dX2_digest_40 : decode cX2_digest 40 = .ok (.aload_n 0, 1) := by decide +kernel
theorem dX2_digest_41 : decode cX2_digest 41 = .ok (.lload_n 1, 1) := by decide +kernel
theorem dX2_digest_42 : decode cX2_digest 42 = .ok (.invokevirtual 241, 3) := by decide +kernel
theorem dX2_digest_45 : decode cX2_digest 45 = .ok (.lstore_n 1, 1) := by decide +kernel
theorem dX2_digest_46 : decode cX2_digest 46 = .ok (.lload_n 1, 1) := by decide +kernel
theorem dX2_digest_47 : decode cX2_digest 47 = .ok (.aload_n 0, 1) := by decide +kernel
theorem dX2_digest_48 : decode cX2_digest 48 = .ok (.invokevirtual 244, 3) := by decide +kernel
theorem dX2_digest_51 : decode cX2_digest 51 = .ok (.ifCond .eq 7, 3) := by decide +kernel
theorem dX2_digest_54 : decode cX2_digest 54 = .ok (.lconst 1, 1) := by decide +kernel
theorem dX2_digest_55 : decode cX2_digest 55 = .ok (.goto 4, 3) := by decide +kernel
theorem dX2_digest_58 : decode cX2_digest 58 = .ok (.lconst 0, 1) := by decide +kernel
theorem dX2_digest_59 : decode cX2_digest 59 = .ok (.invokestatic 247, 3) := by decide +kernel
theorem dX2_digest_62 : decode cX2_digest 62 = .ok (.lreturn, 1) := by decide +kernel
set_option maxHeartbeats 4000000 in
set_option maxRecDepth 20000 in
theorem c_X2_digest (ad : Nat → Nat) (cs : ClassId × ClassId × ClassId) (K : mK) (rest : va_W) : mCt (mTy cs) yX2_digest cX2_digest 3 (some .long) ⟨6, 0, 0, 135⟩ [.ref (ad 0)] (mWd ad cs K rest) (mWl ad cs K rest) mNo := by
  refine mCt.of (by decide +kernel) (Nat.le_of_ble_eq_true rfl) (fun X hX hE => ?_)
  have hX : mOK X RX2 cX2_digest 3 ⟨6, 0, 0, 135⟩ [] (mTy cs) := hX
  refine r_ldc2 hX kc_X2_221 dX2_digest_0 ?_
  refine r_lstore_n hX dX2_digest_3 rfl (by decide) rfl ?_
  refine r_aload_n hX dX2_digest_4 rfl rfl ?_
  refine r_lload_n hX dX2_digest_5 rfl rfl ?_
  refine r_callV hX (c_X2_withOffsets _ _ _ _ _) kv_X2_223 0 rfl rfl rfl rfl (Nat.le_of_ble_eq_true rfl) ⟨(Nat.le_of_ble_eq_true rfl), (Nat.le_of_ble_eq_true rfl)⟩ ⟨(Nat.le_of_ble_eq_true rfl), (Nat.le_of_ble_eq_true rfl)⟩ dX2_digest_6 (fun _ _ z => False.elim z) (fun v9 ws9 h1 => ?_)
  obtain ⟨r3, K4, hK4, rfl, hw9⟩ := h1
  subst ws9
  dsimp only [mPush]
  refine r_lstore_n hX dX2_digest_9 rfl (by decide) rfl ?_
  refine r_aload_n hX dX2_digest_10 rfl rfl ?_
  refine r_lload_n hX dX2_digest_11 rfl rfl ?_
  refine r_callV hX (c_X2_withMoments _ _ _ _ _) kv_X2_226 0 rfl rfl rfl rfl (Nat.le_of_ble_eq_true rfl) ⟨(Nat.le_of_ble_eq_true rfl), (Nat.le_of_ble_eq_true rfl)⟩ ⟨(Nat.le_of_ble_eq_true rfl), (Nat.le_of_ble_eq_true rfl)⟩ dX2_digest_12 (fun _ _ z => False.elim z) (fun v9 ws9 h5 => ?_)
  obtain ⟨r7, K8, hK8, rfl, hw9⟩ := h5
  subst ws9
  dsimp only [mPush]
  refine r_lstore_n hX dX2_digest_15 rfl (by decide) rfl ?_
  refine r_aload_n hX dX2_digest_16 rfl rfl ?_
  refine r_lload_n hX dX2_digest_17 rfl rfl ?_
  refine r_callV hX (c_X2_withDates _ _ _ _ _) kv_X2_229 0 rfl rfl rfl rfl (Nat.le_of_ble_eq_true rfl) ⟨(Nat.le_of_ble_eq_true rfl), (Nat.le_of_ble_eq_true rfl)⟩ ⟨(Nat.le_of_ble_eq_true rfl), (Nat.le_of_ble_eq_true rfl)⟩ dX2_digest_18 (fun _ _ z => False.elim z) (fun v9 ws9 h9 => ?_)
  obtain ⟨r11, K12, hK12, rfl, hw9⟩ := h9
  subst ws9
  dsimp only [mPush]
  refine r_lstore_n hX dX2_digest_21 rfl (by decide) rfl ?_
  refine r_aload_n hX dX2_digest_22 rfl rfl ?_
  refine r_lload_n hX dX2_digest_23 rfl rfl ?_
  refine r_callV hX (c_X2_withClocks _ _ _ _ _) kv_X2_232 0 rfl rfl rfl rfl (Nat.le_of_ble_eq_true rfl) ⟨(Nat.le_of_ble_eq_true rfl), (Nat.le_of_ble_eq_true rfl)⟩ ⟨(Nat.le_of_ble_eq_true rfl), (Nat.le_of_ble_eq_true rfl)⟩ dX2_digest_24 (fun _ _ z => False.elim z) (fun v9 ws9 h13 => ?_)
  obtain ⟨r15, K16, hK16, rfl, hw9⟩ := h13
  subst ws9
  dsimp only [mPush]
  refine r_lstore_n hX dX2_digest_27 rfl (by decide) rfl ?_
  refine r_aload_n hX dX2_digest_28 rfl rfl ?_
  refine r_lload_n hX dX2_digest_29 rfl rfl ?_
  refine r_callV hX (c_X2_withDatePairs _ _ _ _ _) kv_X2_235 0 rfl rfl rfl rfl (Nat.le_of_ble_eq_true rfl) ⟨(Nat.le_of_ble_eq_true rfl), (Nat.le_of_ble_eq_true rfl)⟩ ⟨(Nat.le_of_ble_eq_true rfl), (Nat.le_of_ble_eq_true rfl)⟩ dX2_digest_30 (fun _ _ z => False.elim z) (fun v9 ws9 h17 => ?_)
  obtain ⟨r19, K20, hK20, rfl, hw9⟩ := h17
  subst ws9
  dsimp only [mPush]
  refine r_lstore_n hX dX2_digest_33 rfl (by decide) rfl ?_
  refine r_aload_n hX dX2_digest_34 rfl rfl ?_
  refine r_lload_n hX dX2_digest_35 rfl rfl ?_
  refine r_callV hX (c_X2_withClockPairs _ _ _ _ _) kv_X2_238 0 rfl rfl rfl rfl (Nat.le_of_ble_eq_true rfl) ⟨(Nat.le_of_ble_eq_true rfl), (Nat.le_of_ble_eq_true rfl)⟩ ⟨(Nat.le_of_ble_eq_true rfl), (Nat.le_of_ble_eq_true rfl)⟩ dX2_digest_36 (fun _ _ z => False.elim z) (fun v9 ws9 h21 => ?_)
  obtain ⟨r23, K24, hK24, rfl, hw9⟩ := h21
  subst ws9
  dsimp only [mPush]
  refine r_lstore_n hX dX2_digest_39 rfl (by decide) rfl ?_
  refine r_aload_n hX dX2_digest_40 rfl rfl ?_
  refine r_lload_n hX dX2_digest_41 rfl rfl ?_
  refine r_callV hX (c_X2_withHouse _ _ _ _ _) kv_X2_241 0 rfl rfl rfl rfl (Nat.le_of_ble_eq_true rfl) ⟨(Nat.le_of_ble_eq_true rfl), (Nat.le_of_ble_eq_true rfl)⟩ ⟨(Nat.le_of_ble_eq_true rfl), (Nat.le_of_ble_eq_true rfl)⟩ dX2_digest_42 (fun _ _ z => False.elim z) (fun v9 ws9 h25 => ?_)
  obtain ⟨r27, K28, hK28, rfl, hw9⟩ := h25
  subst ws9
  dsimp only [mPush]
  refine r_lstore_n hX dX2_digest_45 rfl (by decide) rfl ?_
  refine r_lload_n hX dX2_digest_46 rfl rfl ?_
  refine r_aload_n hX dX2_digest_47 rfl rfl ?_
  refine r_callV hX (c_X2_isSound _ _ _ _) kv_X2_244 0 rfl rfl rfl rfl (Nat.le_of_ble_eq_true rfl) ⟨(Nat.le_of_ble_eq_true rfl), (Nat.le_of_ble_eq_true rfl)⟩ ⟨(Nat.le_of_ble_eq_true rfl), (Nat.le_of_ble_eq_true rfl)⟩ dX2_digest_48 (fun _ _ z => False.elim z) (fun v9 ws9 h29 => ?_)
  obtain ⟨r31, K32, br31, hK32, rfl, hw9⟩ := h29
  subst ws9
  dsimp only [mPush]
  refine r_if_eq (tgt := 58) hX dX2_digest_51 (by decide) (fun c33 => ?_) (fun c33 => ?_)
  · refine r_lconst (v := 0) hX dX2_digest_58 (by decide) ?_
    refine r_callS hX (c_X2_added _ _ _ _) ks_X2_247 rfl rfl (Nat.le_of_ble_eq_true rfl) ⟨(Nat.le_of_ble_eq_true rfl), (Nat.le_of_ble_eq_true rfl)⟩ ⟨(Nat.le_of_ble_eq_true rfl), (Nat.le_of_ble_eq_true rfl)⟩ dX2_digest_59 (fun _ _ z => False.elim z) (fun v9 ws9 h34 => ?_)
    obtain ⟨r36, rfl, hw9⟩ := h34
    subst ws9
    dsimp only [mPush]
    exact r_lret hX hE dX2_digest_62 (Nat.le_of_ble_eq_true rfl) (Nat.le_of_ble_eq_true rfl) ⟨_, K32, (hK32.trans (hK28.trans (hK24.trans (hK20.trans (hK16.trans (hK12.trans (hK8.trans (hK4.trans rfl)))))))), rfl, rfl⟩
  · refine r_lconst (v := 1) hX dX2_digest_54 (by decide) ?_
    refine r_goto (tgt := 59) hX dX2_digest_55 (by decide) ?_
    refine r_callS hX (c_X2_added _ _ _ _) ks_X2_247 rfl rfl (Nat.le_of_ble_eq_true rfl) ⟨(Nat.le_of_ble_eq_true rfl), (Nat.le_of_ble_eq_true rfl)⟩ ⟨(Nat.le_of_ble_eq_true rfl), (Nat.le_of_ble_eq_true rfl)⟩ dX2_digest_59 (fun _ _ z => False.elim z) (fun v9 ws9 h37 => ?_)
    obtain ⟨r39, rfl, hw9⟩ := h37
    subst ws9
    dsimp only [mPush]
    exact r_lret hX hE dX2_digest_62 (Nat.le_of_ble_eq_true rfl) (Nat.le_of_ble_eq_true rfl) ⟨_, K32, (hK32.trans (hK28.trans (hK24.trans (hK20.trans (hK16.trans (hK12.trans (hK8.trans (hK4.trans rfl)))))))), rfl, rfl⟩
end
section
/-! The class, its contracts (rows by a program of this repository). -/
theorem dX2_orderOffset_0 : decode cX2_orderOffset 0 = .ok (.aload_n 0, 1) := by decide +kernel
theorem dX2_orderOffset_1 : decode cX2_orderOffset 1 = .ok (.iload_n 2, 1) := by decide +kernel
theorem dX2_orderOffset_2 : decode cX2_orderOffset 2 = .ok (.invokevirtual 64, 3) := by decide +kernel
theorem dX2_orderOffset_5 : decode cX2_orderOffset 5 = .ok (.i2l, 1) := by decide +kernel
theorem dX2_orderOffset_6 : decode cX2_orderOffset 6 = .ok (.aload_n 0, 1) := by decide +kernel
theorem dX2_orderOffset_7 : decode cX2_orderOffset 7 = .ok (.iload_n 1, 1) := by decide +kernel
theorem dX2_orderOffset_8 : decode cX2_orderOffset 8 = .ok (.invokevirtual 64, 3) := by decide +kernel
theorem dX2_orderOffset_11 : decode cX2_orderOffset 11 = .ok (.i2l, 1) := by decide +kernel
theorem dX2_orderOffset_12 : decode cX2_orderOffset 12 = .ok (.invokestatic 68, 3) := by decide +kernel
theorem dX2_orderOffset_15 : decode cX2_orderOffset 15 = .ok (.ireturn, 1) := by decide +kernel
set_option maxHeartbeats 4000000 in
set_option maxRecDepth 20000 in
theorem c_X2_orderOffset (ad : Nat → Nat) (cs : ClassId × ClassId × ClassId) (K : mK) (rest : va_W) (p0 : Int32) (p1 : Int32) : mCt (mTy cs) yX2_orderOffset cX2_orderOffset 3 (some .int) ⟨8, 2, 12, 124⟩ [.ref (ad 0), .int p0, .int p1] (mWd ad cs K rest) (mWi ad cs K rest) (mTh [xI] (mWd ad cs K rest)) := by
  refine mCt.of (by decide +kernel) (Nat.le_of_ble_eq_true rfl) (fun X hX hE => ?_)
  have hX : mOK X RX2 cX2_orderOffset 3 ⟨8, 2, 12, 124⟩ [] (mTy cs) := hX
  refine r_aload_n hX dX2_orderOffset_0 rfl rfl ?_
  refine r_iload_n hX dX2_orderOffset_1 rfl rfl ?_
  refine r_callV hX (c_X2_seconds _ _ _ _ _) kv_X2_64 0 rfl rfl rfl rfl (Nat.le_of_ble_eq_true rfl) ⟨(Nat.le_of_ble_eq_true rfl), (Nat.le_of_ble_eq_true rfl)⟩ ⟨(Nat.le_of_ble_eq_true rfl), (Nat.le_of_ble_eq_true rfl)⟩ dX2_orderOffset_2 (fun E ws9 z => r_out hX hE (Nat.le_of_ble_eq_true rfl) (Nat.le_of_ble_eq_true rfl) (⟨by rw [z.1]; exact List.mem_cons_self, z.2.1⟩)) (fun v9 ws9 h1 => ?_)
  obtain ⟨i3, hhi3, rfl, rfl, hw9⟩ := h1
  subst ws9
  dsimp only [mPush]
  refine r_i2l hX dX2_orderOffset_5 ?_
  refine r_aload_n hX dX2_orderOffset_6 rfl rfl ?_
  refine r_iload_n hX dX2_orderOffset_7 rfl rfl ?_
  refine r_callV hX (c_X2_seconds _ _ _ _ _) kv_X2_64 0 rfl rfl rfl rfl (Nat.le_of_ble_eq_true rfl) ⟨(Nat.le_of_ble_eq_true rfl), (Nat.le_of_ble_eq_true rfl)⟩ ⟨(Nat.le_of_ble_eq_true rfl), (Nat.le_of_ble_eq_true rfl)⟩ dX2_orderOffset_8 (fun E ws9 z => r_out hX hE (Nat.le_of_ble_eq_true rfl) (Nat.le_of_ble_eq_true rfl) (⟨by rw [z.1]; exact List.mem_cons_self, z.2.1⟩)) (fun v9 ws9 h4 => ?_)
  obtain ⟨i6, hhi6, rfl, rfl, hw9⟩ := h4
  subst ws9
  dsimp only [mPush]
  refine r_i2l hX dX2_orderOffset_11 ?_
  refine r_callS hX (c_X2_compared _ _ _ _) ks_X2_68 rfl rfl (Nat.le_of_ble_eq_true rfl) ⟨(Nat.le_of_ble_eq_true rfl), (Nat.le_of_ble_eq_true rfl)⟩ ⟨(Nat.le_of_ble_eq_true rfl), (Nat.le_of_ble_eq_true rfl)⟩ dX2_orderOffset_12 (fun _ _ z => False.elim z) (fun v9 ws9 h7 => ?_)
  obtain ⟨r9, rfl, hw9⟩ := h7
  subst ws9
  dsimp only [mPush]
  exact r_iret hX hE dX2_orderOffset_15 (Nat.le_of_ble_eq_true rfl) (Nat.le_of_ble_eq_true rfl) ⟨_, K, rfl, rfl, rfl⟩
theorem dX2_moment_0 : decode cX2_moment 0 = .ok (.iload_n 1, 1) := by decide +kernel
theorem dX2_moment_1 : decode cX2_moment 1 = .ok (.aload_n 0, 1) := by decide +kernel
theorem dX2_moment_2 : decode cX2_moment 2 = .ok (.getfield 13, 3) := by decide +kernel
theorem dX2_moment_5 : decode cX2_moment 5 = .ok (.arraylength, 1) := by decide +kernel
theorem dX2_moment_6 : decode cX2_moment 6 = .ok (.invokestatic 34, 3) := by decide +kernel
theorem dX2_moment_9 : decode cX2_moment 9 = .ok (.aload_n 0, 1) := by decide +kernel
theorem dX2_moment_10 : decode cX2_moment 10 = .ok (.iload_n 1, 1) := by decide +kernel
theorem dX2_moment_11 : decode cX2_moment 11 = .ok (.iload_n 2, 1) := by decide +kernel
theorem dX2_moment_12 : decode cX2_moment 12 = .ok (.i2l, 1) := by decide +kernel
theorem dX2_moment_13 : decode cX2_moment 13 = .ok (.ldc2_w 72, 3) := by decide +kernel
theorem dX2_moment_16 : decode cX2_moment 16 = .ok (.lmul, 1) := by decide +kernel
theorem dX2_moment_17 : decode cX2_moment 17 = .ok (.iload_n 3, 1) := by decide +kernel
theorem dX2_moment_18 : decode cX2_moment 18 = .ok (.i2l, 1) := by decide +kernel
theorem dX2_moment_19 : decode cX2_moment 19 = .ok (.ladd, 1) := by decide +kernel
theorem dX2_moment_20 : decode cX2_moment 20 = .ok (.invokevirtual 74, 3) := by decide +kernel
theorem dX2_moment_23 : decode cX2_moment 23 = .ok (.ireturn, 1) := by decide +kernel
set_option maxHeartbeats 4000000 in
set_option maxRecDepth 20000 in
theorem c_X2_moment (ad : Nat → Nat) (cs : ClassId × ClassId × ClassId) (K : mK) (rest : va_W) (p0 : Int32) (p1 : Int32) (p2 : Int32) : mCt (mTy cs) yX2_moment cX2_moment 4 (some .int) ⟨7, 1, 6, 103⟩ [.ref (ad 0), .int p0, .int p1, .int p2] (mWd ad cs K rest) (mWi ad cs K rest) (mTh [xI] (mWd ad cs K rest)) := by
  refine mCt.of (by decide +kernel) (Nat.le_of_ble_eq_true rfl) (fun X hX hE => ?_)
  have hX : mOK X RX2 cX2_moment 4 ⟨7, 1, 6, 103⟩ [] (mTy cs) := hX
  refine r_iload_n hX dX2_moment_0 rfl rfl ?_
  refine r_aload_n hX dX2_moment_1 rfl rfl ?_
  refine r_get hX kf_X2_13 0 rfl rfl dX2_moment_2 ?_
  refine r_alen (v := nI 4) hX 2 1 rfl rfl rfl dX2_moment_5 ?_
  refine r_callS hX (c_X2_requireOne _ _ _ 4 (by decide)) ks_X2_34 rfl rfl (Nat.le_of_ble_eq_true rfl) ⟨(Nat.le_of_ble_eq_true rfl), (Nat.le_of_ble_eq_true rfl)⟩ ⟨(Nat.le_of_ble_eq_true rfl), (Nat.le_of_ble_eq_true rfl)⟩ dX2_moment_6 (fun E ws9 z => r_out hX hE (Nat.le_of_ble_eq_true rfl) (Nat.le_of_ble_eq_true rfl) (⟨by rw [z.1]; exact List.mem_cons_self, z.2.1⟩)) (fun v9 ws9 h1 => ?_)
  obtain ⟨i3, hhi3, rfl, rfl, hw9⟩ := h1
  subst ws9
  dsimp only [mPush]
  refine r_aload_n hX dX2_moment_9 rfl rfl ?_
  refine r_iload_n hX dX2_moment_10 rfl rfl ?_
  refine r_iload_n hX dX2_moment_11 rfl rfl ?_
  refine r_i2l hX dX2_moment_12 ?_
  refine r_ldc2 hX kc_X2_72 dX2_moment_13 ?_
  refine r_lmul hX dX2_moment_16 ?_
  refine r_iload_n hX dX2_moment_17 rfl rfl ?_
  refine r_i2l hX dX2_moment_18 ?_
  refine r_ladd hX dX2_moment_19 ?_
  refine r_callV hX (c_X2_putNumber _ _ _ _ i3 hhi3 _) kv_X2_74 0 rfl rfl rfl rfl (Nat.le_of_ble_eq_true rfl) ⟨(Nat.le_of_ble_eq_true rfl), (Nat.le_of_ble_eq_true rfl)⟩ ⟨(Nat.le_of_ble_eq_true rfl), (Nat.le_of_ble_eq_true rfl)⟩ dX2_moment_20 (fun _ _ z => False.elim z) (fun v9 ws9 h4 => ?_)
  obtain ⟨r6, K7, hK7, rfl, hw9⟩ := h4
  subst ws9
  dsimp only [mPush]
  exact r_iret hX hE dX2_moment_23 (Nat.le_of_ble_eq_true rfl) (Nat.le_of_ble_eq_true rfl) ⟨_, K7, (hK7.trans rfl), rfl, rfl⟩
theorem dX2_milli_0 : decode cX2_milli 0 = .ok (.iload_n 1, 1) := by decide +kernel
theorem dX2_milli_1 : decode cX2_milli 1 = .ok (.aload_n 0, 1) := by decide +kernel
theorem dX2_milli_2 : decode cX2_milli 2 = .ok (.getfield 13, 3) := by decide +kernel
theorem dX2_milli_5 : decode cX2_milli 5 = .ok (.arraylength, 1) := by decide +kernel
theorem dX2_milli_6 : decode cX2_milli 6 = .ok (.invokestatic 34, 3) := by decide +kernel
theorem dX2_milli_9 : decode cX2_milli 9 = .ok (.aload_n 0, 1) := by decide +kernel
theorem dX2_milli_10 : decode cX2_milli 10 = .ok (.iload_n 1, 1) := by decide +kernel
theorem dX2_milli_11 : decode cX2_milli 11 = .ok (.iload_n 2, 1) := by decide +kernel
theorem dX2_milli_12 : decode cX2_milli 12 = .ok (.i2l, 1) := by decide +kernel
theorem dX2_milli_13 : decode cX2_milli 13 = .ok (.ldc2_w 72, 3) := by decide +kernel
theorem dX2_milli_16 : decode cX2_milli 16 = .ok (.lmul, 1) := by decide +kernel
theorem dX2_milli_17 : decode cX2_milli 17 = .ok (.iload_n 3, 1) := by decide +kernel
theorem dX2_milli_18 : decode cX2_milli 18 = .ok (.i2l, 1) := by decide +kernel
theorem dX2_milli_19 : decode cX2_milli 19 = .ok (.ldc2_w 78, 3) := by decide +kernel
theorem dX2_milli_22 : decode cX2_milli 22 = .ok (.lmul, 1) := by decide +kernel
theorem dX2_milli_23 : decode cX2_milli 23 = .ok (.ladd, 1) := by decide +kernel
theorem dX2_milli_24 : decode cX2_milli 24 = .ok (.invokevirtual 74, 3) := by decide +kernel
theorem dX2_milli_27 : decode cX2_milli 27 = .ok (.ireturn, 1) := by decide +kernel
set_option maxHeartbeats 4000000 in
set_option maxRecDepth 20000 in
theorem c_X2_milli (ad : Nat → Nat) (cs : ClassId × ClassId × ClassId) (K : mK) (rest : va_W) (p0 : Int32) (p1 : Int32) (p2 : Int32) : mCt (mTy cs) yX2_milli cX2_milli 4 (some .int) ⟨7, 1, 6, 103⟩ [.ref (ad 0), .int p0, .int p1, .int p2] (mWd ad cs K rest) (mWi ad cs K rest) (mTh [xI] (mWd ad cs K rest)) := by
  refine mCt.of (by decide +kernel) (Nat.le_of_ble_eq_true rfl) (fun X hX hE => ?_)
  have hX : mOK X RX2 cX2_milli 4 ⟨7, 1, 6, 103⟩ [] (mTy cs) := hX
  refine r_iload_n hX dX2_milli_0 rfl rfl ?_
  refine r_aload_n hX dX2_milli_1 rfl rfl ?_
  refine r_get hX kf_X2_13 0 rfl rfl dX2_milli_2 ?_
  refine r_alen (v := nI 4) hX 2 1 rfl rfl rfl dX2_milli_5 ?_
  refine r_callS hX (c_X2_requireOne _ _ _ 4 (by decide)) ks_X2_34 rfl rfl (Nat.le_of_ble_eq_true rfl) ⟨(Nat.le_of_ble_eq_true rfl), (Nat.le_of_ble_eq_true rfl)⟩ ⟨(Nat.le_of_ble_eq_true rfl), (Nat.le_of_ble_eq_true rfl)⟩ dX2_milli_6 (fun E ws9 z => r_out hX hE (Nat.le_of_ble_eq_true rfl) (Nat.le_of_ble_eq_true rfl) (⟨by rw [z.1]; exact List.mem_cons_self, z.2.1⟩)) (fun v9 ws9 h1 => ?_)
  obtain ⟨i3, hhi3, rfl, rfl, hw9⟩ := h1
  subst ws9
  dsimp only [mPush]
  refine r_aload_n hX dX2_milli_9 rfl rfl ?_
  refine r_iload_n hX dX2_milli_10 rfl rfl ?_
  refine r_iload_n hX dX2_milli_11 rfl rfl ?_
  refine r_i2l hX dX2_milli_12 ?_
  refine r_ldc2 hX kc_X2_72 dX2_milli_13 ?_
  refine r_lmul hX dX2_milli_16 ?_
  refine r_iload_n hX dX2_milli_17 rfl rfl ?_
  refine r_i2l hX dX2_milli_18 ?_
  refine r_ldc2 hX kc_X2_78 dX2_milli_19 ?_
  refine r_lmul hX dX2_milli_22 ?_
  refine r_ladd hX dX2_milli_23 ?_
  refine r_callV hX (c_X2_putNumber _ _ _ _ i3 hhi3 _) kv_X2_74 0 rfl rfl rfl rfl (Nat.le_of_ble_eq_true rfl) ⟨(Nat.le_of_ble_eq_true rfl), (Nat.le_of_ble_eq_true rfl)⟩ ⟨(Nat.le_of_ble_eq_true rfl), (Nat.le_of_ble_eq_true rfl)⟩ dX2_milli_24 (fun _ _ z => False.elim z) (fun v9 ws9 h4 => ?_)
  obtain ⟨r6, K7, hK7, rfl, hw9⟩ := h4
  subst ws9
  dsimp only [mPush]
  exact r_iret hX hE dX2_milli_27 (Nat.le_of_ble_eq_true rfl) (Nat.le_of_ble_eq_true rfl) ⟨_, K7, (hK7.trans rfl), rfl, rfl⟩
theorem dX2_move_0 : decode cX2_move 0 = .ok (.iload_n 1, 1) := by decide +kernel
theorem dX2_move_1 : decode cX2_move 1 = .ok (.aload_n 0, 1) := by decide +kernel
theorem dX2_move_2 : decode cX2_move 2 = .ok (.getfield 13, 3) := by decide +kernel
theorem dX2_move_5 : decode cX2_move 5 = .ok (.arraylength, 1) := by decide +kernel
theorem dX2_move_6 : decode cX2_move 6 = .ok (.invokestatic 34, 3) := by decide +kernel
theorem dX2_move_9 : decode cX2_move 9 = .ok (.iload_n 2, 1) := by decide +kernel
theorem dX2_move_10 : decode cX2_move 10 = .ok (.iconst 0, 1) := by decide +kernel
theorem dX2_move_11 : decode cX2_move 11 = .ok (.iconst 2, 1) := by decide +kernel
theorem dX2_move_12 : decode cX2_move 12 = .ok (.invokestatic 40, 3) := by decide +kernel
theorem dX2_move_15 : decode cX2_move 15 = .ok (.iload_n 2, 1) := by decide +kernel
theorem dX2_move_16 : decode cX2_move 16 = .ok (.ifCond .ne 9, 3) := by decide +kernel
theorem dX2_move_19 : decode cX2_move 19 = .ok (.ldc2_w 72, 3) := by decide +kernel
theorem dX2_move_22 : decode cX2_move 22 = .ok (.goto 15, 3) := by decide +kernel
theorem dX2_move_25 : decode cX2_move 25 = .ok (.iload_n 2, 1) := by decide +kernel
theorem dX2_move_26 : decode cX2_move 26 = .ok (.iconst 1, 1) := by decide +kernel
theorem dX2_move_27 : decode cX2_move 27 = .ok (.if_icmp .ne 9, 3) := by decide +kernel
theorem dX2_move_30 : decode cX2_move 30 = .ok (.ldc2_w 78, 3) := by decide +kernel
theorem dX2_move_33 : decode cX2_move 33 = .ok (.goto 4, 3) := by decide +kernel
theorem dX2_move_36 : decode cX2_move 36 = .ok (.lconst 1, 1) := by decide +kernel
theorem dX2_move_37 : decode cX2_move 37 = .ok (.lstore 5, 2) := by decide +kernel
theorem dX2_move_39 : decode cX2_move 39 = .ok (.aload_n 0, 1) := by decide +kernel
theorem dX2_move_40 : decode cX2_move 40 = .ok (.iload_n 1, 1) := by decide +kernel
theorem dX2_move_41 : decode cX2_move 41 = .ok (.aload_n 0, 1) := by decide +kernel
theorem dX2_move_42 : decode cX2_move 42 = .ok (.getfield 13, 3) := by decide +kernel
theorem dX2_move_45 : decode cX2_move 45 = .ok (.iload_n 1, 1) := by decide +kernel
theorem dX2_move_46 : decode cX2_move 46 = .ok (.laload, 1) := by decide +kernel
theorem dX2_move_47 : decode cX2_move 47 = .ok (.iload_n 3, 1) := by decide +kernel
theorem dX2_move_48 : decode cX2_move 48 = .ok (.iload 4, 2) := by decide +kernel
theorem dX2_move_50 : decode cX2_move 50 = .ok (.invokestatic 80, 3) := by decide +kernel
theorem dX2_move_53 : decode cX2_move 53 = .ok (.lload 5, 2) := by decide +kernel
theorem dX2_move_55 : decode cX2_move 55 = .ok (.lmul, 1) := by decide +kernel
theorem dX2_move_56 : decode cX2_move 56 = .ok (.ladd, 1) := by decide +kernel
theorem dX2_move_57 : decode cX2_move 57 = .ok (.invokevirtual 74, 3) := by decide +kernel
theorem dX2_move_60 : decode cX2_move 60 = .ok (.ireturn, 1) := by decide +kernel
set_option maxHeartbeats 4000000 in
set_option maxRecDepth 20000 in
theorem c_X2_move (ad : Nat → Nat) (cs : ClassId × ClassId × ClassId) (K : mK) (rest : va_W) (p0 : Int32) (p1 : Int32) (p2 : Int32) (p3 : Int32) : mCt (mTy cs) yX2_move cX2_move 7 (some .int) ⟨7, 2, 12, 104⟩ [.ref (ad 0), .int p0, .int p1, .int p2, .int p3] (mWd ad cs K rest) (mWi ad cs K rest) (mTh [xI, xA] (mWd ad cs K rest)) := by
  refine mCt.of (by decide +kernel) (Nat.le_of_ble_eq_true rfl) (fun X hX hE => ?_)
  have hX : mOK X RX2 cX2_move 7 ⟨7, 2, 12, 104⟩ [] (mTy cs) := hX
  refine r_iload_n hX dX2_move_0 rfl rfl ?_
  refine r_aload_n hX dX2_move_1 rfl rfl ?_
  refine r_get hX kf_X2_13 0 rfl rfl dX2_move_2 ?_
  refine r_alen (v := nI 4) hX 2 1 rfl rfl rfl dX2_move_5 ?_
  refine r_callS hX (c_X2_requireOne _ _ _ 4 (by decide)) ks_X2_34 rfl rfl (Nat.le_of_ble_eq_true rfl) ⟨(Nat.le_of_ble_eq_true rfl), (Nat.le_of_ble_eq_true rfl)⟩ ⟨(Nat.le_of_ble_eq_true rfl), (Nat.le_of_ble_eq_true rfl)⟩ dX2_move_6 (fun E ws9 z => r_out hX hE (Nat.le_of_ble_eq_true rfl) (Nat.le_of_ble_eq_true rfl) (⟨by rw [z.1]; exact List.mem_cons_self, z.2.1⟩)) (fun v9 ws9 h1 => ?_)
  obtain ⟨i3, hhi3, rfl, rfl, hw9⟩ := h1
  subst ws9
  dsimp only [mPush]
  refine r_iload_n hX dX2_move_9 rfl rfl ?_
  refine r_iconst (v := 0) hX dX2_move_10 (by decide) ?_
  refine r_iconst (v := 2) hX dX2_move_11 (by decide) ?_
  refine r_callS hX (c_X2_requireWithin _ _ _ _ _) ks_X2_40 rfl rfl (Nat.le_of_ble_eq_true rfl) ⟨(Nat.le_of_ble_eq_true rfl), (Nat.le_of_ble_eq_true rfl)⟩ ⟨(Nat.le_of_ble_eq_true rfl), (Nat.le_of_ble_eq_true rfl)⟩ dX2_move_12 (fun E ws9 z => r_out hX hE (Nat.le_of_ble_eq_true rfl) (Nat.le_of_ble_eq_true rfl) (⟨by rw [z.1]; exact List.mem_cons_of_mem _ List.mem_cons_self, z.2.1⟩)) (fun v9 ws9 h4 => ?_)
  obtain ⟨a6, rfl, hw9⟩ := h4
  subst ws9
  dsimp only [mPush]
  refine r_iload_n hX dX2_move_15 rfl rfl ?_
  refine r_if_ne (tgt := 25) hX dX2_move_16 (by decide) (fun c7 => ?_) (fun c7 => ?_)
  · refine r_iload_n hX dX2_move_25 rfl rfl ?_
    refine r_iconst (v := 1) hX dX2_move_26 (by decide) ?_
    refine r_icmp_ne (tgt := 36) hX dX2_move_27 (by decide) (fun c8 => ?_) (fun c8 => ?_)
    · refine r_lconst (v := 1) hX dX2_move_36 (by decide) ?_
      refine r_lstore hX dX2_move_37 (by decide) rfl ?_
      refine r_aload_n hX dX2_move_39 rfl rfl ?_
      refine r_iload_n hX dX2_move_40 rfl rfl ?_
      refine r_aload_n hX dX2_move_41 rfl rfl ?_
      refine r_get hX kf_X2_13 0 rfl rfl dX2_move_42 ?_
      refine r_iload_n hX dX2_move_45 rfl rfl ?_
      refine r_lald hX 2 1 rfl rfl (vp_in_nI hhi3 (by decide)) dX2_move_46 ?_
      refine r_iload_n hX dX2_move_47 rfl rfl ?_
      refine r_iload hX dX2_move_48 rfl ?_
      refine r_callS hX (c_X2_signed _ _ _ _) ks_X2_80 rfl rfl (Nat.le_of_ble_eq_true rfl) ⟨(Nat.le_of_ble_eq_true rfl), (Nat.le_of_ble_eq_true rfl)⟩ ⟨(Nat.le_of_ble_eq_true rfl), (Nat.le_of_ble_eq_true rfl)⟩ dX2_move_50 (fun _ _ z => False.elim z) (fun v9 ws9 h9 => ?_)
      obtain ⟨r11, rfl, hw9⟩ := h9
      subst ws9
      dsimp only [mPush]
      refine r_lload hX dX2_move_53 rfl ?_
      refine r_lmul hX dX2_move_55 ?_
      refine r_ladd hX dX2_move_56 ?_
      refine r_callV hX (c_X2_putNumber _ _ _ _ i3 hhi3 _) kv_X2_74 0 rfl rfl rfl rfl (Nat.le_of_ble_eq_true rfl) ⟨(Nat.le_of_ble_eq_true rfl), (Nat.le_of_ble_eq_true rfl)⟩ ⟨(Nat.le_of_ble_eq_true rfl), (Nat.le_of_ble_eq_true rfl)⟩ dX2_move_57 (fun _ _ z => False.elim z) (fun v9 ws9 h12 => ?_)
      obtain ⟨r14, K15, hK15, rfl, hw9⟩ := h12
      subst ws9
      dsimp only [mPush]
      exact r_iret hX hE dX2_move_60 (Nat.le_of_ble_eq_true rfl) (Nat.le_of_ble_eq_true rfl) ⟨_, K15, (hK15.trans rfl), rfl, rfl⟩
    · refine r_ldc2 hX kc_X2_78 dX2_move_30 ?_
      refine r_goto (tgt := 37) hX dX2_move_33 (by decide) ?_
      refine r_lstore hX dX2_move_37 (by decide) rfl ?_
      refine r_aload_n hX dX2_move_39 rfl rfl ?_
      refine r_iload_n hX dX2_move_40 rfl rfl ?_
      refine r_aload_n hX dX2_move_41 rfl rfl ?_
      refine r_get hX kf_X2_13 0 rfl rfl dX2_move_42 ?_
      refine r_iload_n hX dX2_move_45 rfl rfl ?_
      refine r_lald hX 2 1 rfl rfl (vp_in_nI hhi3 (by decide)) dX2_move_46 ?_
      refine r_iload_n hX dX2_move_47 rfl rfl ?_
      refine r_iload hX dX2_move_48 rfl ?_
      refine r_callS hX (c_X2_signed _ _ _ _) ks_X2_80 rfl rfl (Nat.le_of_ble_eq_true rfl) ⟨(Nat.le_of_ble_eq_true rfl), (Nat.le_of_ble_eq_true rfl)⟩ ⟨(Nat.le_of_ble_eq_true rfl), (Nat.le_of_ble_eq_true rfl)⟩ dX2_move_50 (fun _ _ z => False.elim z) (fun v9 ws9 h16 => ?_)
      obtain ⟨r18, rfl, hw9⟩ := h16
      subst ws9
      dsimp only [mPush]
      refine r_lload hX dX2_move_53 rfl ?_
      refine r_lmul hX dX2_move_55 ?_
      refine r_ladd hX dX2_move_56 ?_
      refine r_callV hX (c_X2_putNumber _ _ _ _ i3 hhi3 _) kv_X2_74 0 rfl rfl rfl rfl (Nat.le_of_ble_eq_true rfl) ⟨(Nat.le_of_ble_eq_true rfl), (Nat.le_of_ble_eq_true rfl)⟩ ⟨(Nat.le_of_ble_eq_true rfl), (Nat.le_of_ble_eq_true rfl)⟩ dX2_move_57 (fun _ _ z => False.elim z) (fun v9 ws9 h19 => ?_)
      obtain ⟨r21, K22, hK22, rfl, hw9⟩ := h19
      subst ws9
      dsimp only [mPush]
      exact r_iret hX hE dX2_move_60 (Nat.le_of_ble_eq_true rfl) (Nat.le_of_ble_eq_true rfl) ⟨_, K22, (hK22.trans rfl), rfl, rfl⟩
  · refine r_ldc2 hX kc_X2_72 dX2_move_19 ?_
    refine r_goto (tgt := 37) hX dX2_move_22 (by decide) ?_
    refine r_lstore hX dX2_move_37 (by decide) rfl ?_
    refine r_aload_n hX dX2_move_39 rfl rfl ?_
    refine r_iload_n hX dX2_move_40 rfl rfl ?_
    refine r_aload_n hX dX2_move_41 rfl rfl ?_
    refine r_get hX kf_X2_13 0 rfl rfl dX2_move_42 ?_
    refine r_iload_n hX dX2_move_45 rfl rfl ?_
    refine r_lald hX 2 1 rfl rfl (vp_in_nI hhi3 (by decide)) dX2_move_46 ?_
    refine r_iload_n hX dX2_move_47 rfl rfl ?_
    refine r_iload hX dX2_move_48 rfl ?_
    refine r_callS hX (c_X2_signed _ _ _ _) ks_X2_80 rfl rfl (Nat.le_of_ble_eq_true rfl) ⟨(Nat.le_of_ble_eq_true rfl), (Nat.le_of_ble_eq_true rfl)⟩ ⟨(Nat.le_of_ble_eq_true rfl), (Nat.le_of_ble_eq_true rfl)⟩ dX2_move_50 (fun _ _ z => False.elim z) (fun v9 ws9 h23 => ?_)
    obtain ⟨r25, rfl, hw9⟩ := h23
    subst ws9
    dsimp only [mPush]
    refine r_lload hX dX2_move_53 rfl ?_
    refine r_lmul hX dX2_move_55 ?_
    refine r_ladd hX dX2_move_56 ?_
    refine r_callV hX (c_X2_putNumber _ _ _ _ i3 hhi3 _) kv_X2_74 0 rfl rfl rfl rfl (Nat.le_of_ble_eq_true rfl) ⟨(Nat.le_of_ble_eq_true rfl), (Nat.le_of_ble_eq_true rfl)⟩ ⟨(Nat.le_of_ble_eq_true rfl), (Nat.le_of_ble_eq_true rfl)⟩ dX2_move_57 (fun _ _ z => False.elim z) (fun v9 ws9 h26 => ?_)
    obtain ⟨r28, K29, hK29, rfl, hw9⟩ := h26
    subst ws9
    dsimp only [mPush]
    exact r_iret hX hE dX2_move_60 (Nat.le_of_ble_eq_true rfl) (Nat.le_of_ble_eq_true rfl) ⟨_, K29, (hK29.trans rfl), rfl, rfl⟩
theorem dX2_momentOf_0 : decode cX2_momentOf 0 = .ok (.iload_n 1, 1) := by decide +kernel
theorem dX2_momentOf_1 : decode cX2_momentOf 1 = .ok (.aload_n 0, 1) := by decide +kernel
theorem dX2_momentOf_2 : decode cX2_momentOf 2 = .ok (.getfield 13, 3) := by decide +kernel
theorem dX2_momentOf_5 : decode cX2_momentOf 5 = .ok (.arraylength, 1) := by decide +kernel
theorem dX2_momentOf_6 : decode cX2_momentOf 6 = .ok (.invokestatic 34, 3) := by decide +kernel
theorem dX2_momentOf_9 : decode cX2_momentOf 9 = .ok (.aload_n 0, 1) := by decide +kernel
theorem dX2_momentOf_10 : decode cX2_momentOf 10 = .ok (.iload_n 1, 1) := by decide +kernel
theorem dX2_momentOf_11 : decode cX2_momentOf 11 = .ok (.aload_n 0, 1) := by decide +kernel
theorem dX2_momentOf_12 : decode cX2_momentOf 12 = .ok (.getfield 20, 3) := by decide +kernel
theorem dX2_momentOf_15 : decode cX2_momentOf 15 = .ok (.iload_n 2, 1) := by decide +kernel
theorem dX2_momentOf_16 : decode cX2_momentOf 16 = .ok (.invokestatic 84, 3) := by decide +kernel
theorem dX2_momentOf_19 : decode cX2_momentOf 19 = .ok (.invokestatic 88, 3) := by decide +kernel
theorem dX2_momentOf_22 : decode cX2_momentOf 22 = .ok (.invokevirtual 74, 3) := by decide +kernel
theorem dX2_momentOf_25 : decode cX2_momentOf 25 = .ok (.ireturn, 1) := by decide +kernel
set_option maxHeartbeats 4000000 in
set_option maxRecDepth 20000 in
theorem c_X2_momentOf (ad : Nat → Nat) (cs : ClassId × ClassId × ClassId) (K : mK) (rest : va_W) (p0 : Int32) (p1 : Int32) : mCt (mTy cs) yX2_momentOf cX2_momentOf 3 (some .int) ⟨7, 2, 12, 103⟩ [.ref (ad 0), .int p0, .int p1] (mWd ad cs K rest) (mWi ad cs K rest) (mTh [xI] (mWd ad cs K rest)) := by
  refine mCt.of (by decide +kernel) (Nat.le_of_ble_eq_true rfl) (fun X hX hE => ?_)
  have hX : mOK X RX2 cX2_momentOf 3 ⟨7, 2, 12, 103⟩ [] (mTy cs) := hX
  refine r_iload_n hX dX2_momentOf_0 rfl rfl ?_
  refine r_aload_n hX dX2_momentOf_1 rfl rfl ?_
  refine r_get hX kf_X2_13 0 rfl rfl dX2_momentOf_2 ?_
  refine r_alen (v := nI 4) hX 2 1 rfl rfl rfl dX2_momentOf_5 ?_
  refine r_callS hX (c_X2_requireOne _ _ _ 4 (by decide)) ks_X2_34 rfl rfl (Nat.le_of_ble_eq_true rfl) ⟨(Nat.le_of_ble_eq_true rfl), (Nat.le_of_ble_eq_true rfl)⟩ ⟨(Nat.le_of_ble_eq_true rfl), (Nat.le_of_ble_eq_true rfl)⟩ dX2_momentOf_6 (fun E ws9 z => r_out hX hE (Nat.le_of_ble_eq_true rfl) (Nat.le_of_ble_eq_true rfl) (⟨by rw [z.1]; exact List.mem_cons_self, z.2.1⟩)) (fun v9 ws9 h1 => ?_)
  obtain ⟨i3, hhi3, rfl, rfl, hw9⟩ := h1
  subst ws9
  dsimp only [mPush]
  refine r_aload_n hX dX2_momentOf_9 rfl rfl ?_
  refine r_iload_n hX dX2_momentOf_10 rfl rfl ?_
  refine r_aload_n hX dX2_momentOf_11 rfl rfl ?_
  refine r_get hX kf_X2_20 0 rfl rfl dX2_momentOf_12 ?_
  refine r_iload_n hX dX2_momentOf_15 rfl rfl ?_
  refine r_callS hX (c_X2_at ad cs _ 3 _ 4 0 rfl (by decide) _) ks_X2_84 rfl rfl (Nat.le_of_ble_eq_true rfl) ⟨(Nat.le_of_ble_eq_true rfl), (Nat.le_of_ble_eq_true rfl)⟩ ⟨(Nat.le_of_ble_eq_true rfl), (Nat.le_of_ble_eq_true rfl)⟩ dX2_momentOf_16 (fun E ws9 z => r_out hX hE (Nat.le_of_ble_eq_true rfl) (Nat.le_of_ble_eq_true rfl) (⟨by rw [z.1]; exact List.mem_cons_self, z.2.1⟩)) (fun v9 ws9 h4 => ?_)
  obtain ⟨i6, hhi6, rfl, rfl, hw9⟩ := h4
  subst ws9
  dsimp only [mPush]
  refine r_callS hX (c_X2_numberOf _ _ (i6 + 5) _ _ _ _ (mWd_loc (d := i6) (by omega))) ks_X2_88 rfl rfl (Nat.le_of_ble_eq_true rfl) ⟨(Nat.le_of_ble_eq_true rfl), (Nat.le_of_ble_eq_true rfl)⟩ ⟨(Nat.le_of_ble_eq_true rfl), (Nat.le_of_ble_eq_true rfl)⟩ dX2_momentOf_19 (fun _ _ z => False.elim z) (fun v9 ws9 h7 => ?_)
  obtain ⟨r9, rfl, hw9⟩ := h7
  subst ws9
  dsimp only [mPush]
  refine r_callV hX (c_X2_putNumber _ _ _ _ i3 hhi3 _) kv_X2_74 0 rfl rfl rfl rfl (Nat.le_of_ble_eq_true rfl) ⟨(Nat.le_of_ble_eq_true rfl), (Nat.le_of_ble_eq_true rfl)⟩ ⟨(Nat.le_of_ble_eq_true rfl), (Nat.le_of_ble_eq_true rfl)⟩ dX2_momentOf_22 (fun _ _ z => False.elim z) (fun v9 ws9 h10 => ?_)
  obtain ⟨r12, K13, hK13, rfl, hw9⟩ := h10
  subst ws9
  dsimp only [mPush]
  exact r_iret hX hE dX2_momentOf_25 (Nat.le_of_ble_eq_true rfl) (Nat.le_of_ble_eq_true rfl) ⟨_, K13, (hK13.trans rfl), rfl, rfl⟩
theorem dX2_orderMoment_0 : decode cX2_orderMoment 0 = .ok (.iload_n 1, 1) := by decide +kernel
theorem dX2_orderMoment_1 : decode cX2_orderMoment 1 = .ok (.aload_n 0, 1) := by decide +kernel
theorem dX2_orderMoment_2 : decode cX2_orderMoment 2 = .ok (.getfield 13, 3) := by decide +kernel
theorem dX2_orderMoment_5 : decode cX2_orderMoment 5 = .ok (.arraylength, 1) := by decide +kernel
theorem dX2_orderMoment_6 : decode cX2_orderMoment 6 = .ok (.invokestatic 34, 3) := by decide +kernel
theorem dX2_orderMoment_9 : decode cX2_orderMoment 9 = .ok (.iload_n 2, 1) := by decide +kernel
theorem dX2_orderMoment_10 : decode cX2_orderMoment 10 = .ok (.aload_n 0, 1) := by decide +kernel
theorem dX2_orderMoment_11 : decode cX2_orderMoment 11 = .ok (.getfield 13, 3) := by decide +kernel
theorem dX2_orderMoment_14 : decode cX2_orderMoment 14 = .ok (.arraylength, 1) := by decide +kernel
theorem dX2_orderMoment_15 : decode cX2_orderMoment 15 = .ok (.invokestatic 34, 3) := by decide +kernel
theorem dX2_orderMoment_18 : decode cX2_orderMoment 18 = .ok (.aload_n 0, 1) := by decide +kernel
theorem dX2_orderMoment_19 : decode cX2_orderMoment 19 = .ok (.getfield 13, 3) := by decide +kernel
theorem dX2_orderMoment_22 : decode cX2_orderMoment 22 = .ok (.iload_n 1, 1) := by decide +kernel
theorem dX2_orderMoment_23 : decode cX2_orderMoment 23 = .ok (.laload, 1) := by decide +kernel
theorem dX2_orderMoment_24 : decode cX2_orderMoment 24 = .ok (.aload_n 0, 1) := by decide +kernel
theorem dX2_orderMoment_25 : decode cX2_orderMoment 25 = .ok (.getfield 13, 3) := by decide +kernel
theorem dX2_orderMoment_28 : decode cX2_orderMoment 28 = .ok (.iload_n 2, 1) := by decide +kernel
theorem dX2_orderMoment_29 : decode cX2_orderMoment 29 = .ok (.laload, 1) := by decide +kernel
theorem dX2_orderMoment_30 : decode cX2_orderMoment 30 = .ok (.invokestatic 68, 3) := by decide +kernel
theorem dX2_orderMoment_33 : decode cX2_orderMoment 33 = .ok (.ireturn, 1) := by decide +kernel
set_option maxHeartbeats 4000000 in
set_option maxRecDepth 20000 in
theorem c_X2_orderMoment (ad : Nat → Nat) (cs : ClassId × ClassId × ClassId) (K : mK) (rest : va_W) (p0 : Int32) (p1 : Int32) : mCt (mTy cs) yX2_orderMoment cX2_orderMoment 3 (some .int) ⟨7, 2, 12, 103⟩ [.ref (ad 0), .int p0, .int p1] (mWd ad cs K rest) (mRi (mWd ad cs K rest)) (mTh [xI] (mWd ad cs K rest)) := by
  refine mCt.of (by decide +kernel) (Nat.le_of_ble_eq_true rfl) (fun X hX hE => ?_)
  have hX : mOK X RX2 cX2_orderMoment 3 ⟨7, 2, 12, 103⟩ [] (mTy cs) := hX
  refine r_iload_n hX dX2_orderMoment_0 rfl rfl ?_
  refine r_aload_n hX dX2_orderMoment_1 rfl rfl ?_
  refine r_get hX kf_X2_13 0 rfl rfl dX2_orderMoment_2 ?_
  refine r_alen (v := nI 4) hX 2 1 rfl rfl rfl dX2_orderMoment_5 ?_
  refine r_callS hX (c_X2_requireOne _ _ _ 4 (by decide)) ks_X2_34 rfl rfl (Nat.le_of_ble_eq_true rfl) ⟨(Nat.le_of_ble_eq_true rfl), (Nat.le_of_ble_eq_true rfl)⟩ ⟨(Nat.le_of_ble_eq_true rfl), (Nat.le_of_ble_eq_true rfl)⟩ dX2_orderMoment_6 (fun E ws9 z => r_out hX hE (Nat.le_of_ble_eq_true rfl) (Nat.le_of_ble_eq_true rfl) (⟨by rw [z.1]; exact List.mem_cons_self, z.2.1⟩)) (fun v9 ws9 h1 => ?_)
  obtain ⟨i3, hhi3, rfl, rfl, hw9⟩ := h1
  subst ws9
  dsimp only [mPush]
  refine r_iload_n hX dX2_orderMoment_9 rfl rfl ?_
  refine r_aload_n hX dX2_orderMoment_10 rfl rfl ?_
  refine r_get hX kf_X2_13 0 rfl rfl dX2_orderMoment_11 ?_
  refine r_alen (v := nI 4) hX 2 1 rfl rfl rfl dX2_orderMoment_14 ?_
  refine r_callS hX (c_X2_requireOne _ _ _ 4 (by decide)) ks_X2_34 rfl rfl (Nat.le_of_ble_eq_true rfl) ⟨(Nat.le_of_ble_eq_true rfl), (Nat.le_of_ble_eq_true rfl)⟩ ⟨(Nat.le_of_ble_eq_true rfl), (Nat.le_of_ble_eq_true rfl)⟩ dX2_orderMoment_15 (fun E ws9 z => r_out hX hE (Nat.le_of_ble_eq_true rfl) (Nat.le_of_ble_eq_true rfl) (⟨by rw [z.1]; exact List.mem_cons_self, z.2.1⟩)) (fun v9 ws9 h4 => ?_)
  obtain ⟨i6, hhi6, rfl, rfl, hw9⟩ := h4
  subst ws9
  dsimp only [mPush]
  refine r_aload_n hX dX2_orderMoment_18 rfl rfl ?_
  refine r_get hX kf_X2_13 0 rfl rfl dX2_orderMoment_19 ?_
  refine r_iload_n hX dX2_orderMoment_22 rfl rfl ?_
  refine r_lald hX 2 1 rfl rfl (vp_in_nI hhi3 (by decide)) dX2_orderMoment_23 ?_
  refine r_aload_n hX dX2_orderMoment_24 rfl rfl ?_
  refine r_get hX kf_X2_13 0 rfl rfl dX2_orderMoment_25 ?_
  refine r_iload_n hX dX2_orderMoment_28 rfl rfl ?_
  refine r_lald hX 2 1 rfl rfl (vp_in_nI hhi6 (by decide)) dX2_orderMoment_29 ?_
  refine r_callS hX (c_X2_compared _ _ _ _) ks_X2_68 rfl rfl (Nat.le_of_ble_eq_true rfl) ⟨(Nat.le_of_ble_eq_true rfl), (Nat.le_of_ble_eq_true rfl)⟩ ⟨(Nat.le_of_ble_eq_true rfl), (Nat.le_of_ble_eq_true rfl)⟩ dX2_orderMoment_30 (fun _ _ z => False.elim z) (fun v9 ws9 h7 => ?_)
  obtain ⟨r9, rfl, hw9⟩ := h7
  subst ws9
  dsimp only [mPush]
  exact r_iret hX hE dX2_orderMoment_33 (Nat.le_of_ble_eq_true rfl) (Nat.le_of_ble_eq_true rfl) ⟨_, rfl, rfl⟩
theorem dX2_isMoment_0 : decode cX2_isMoment 0 = .ok (.aload_n 0, 1) := by decide +kernel
theorem dX2_isMoment_1 : decode cX2_isMoment 1 = .ok (.iload_n 1, 1) := by decide +kernel
theorem dX2_isMoment_2 : decode cX2_isMoment 2 = .ok (.iload_n 2, 1) := by decide +kernel
theorem dX2_isMoment_3 : decode cX2_isMoment 3 = .ok (.invokevirtual 110, 3) := by decide +kernel
theorem dX2_isMoment_6 : decode cX2_isMoment 6 = .ok (.istore 4, 2) := by decide +kernel
theorem dX2_isMoment_8 : decode cX2_isMoment 8 = .ok (.iload_n 3, 1) := by decide +kernel
theorem dX2_isMoment_9 : decode cX2_isMoment 9 = .ok (.iconst 0, 1) := by decide +kernel
theorem dX2_isMoment_10 : decode cX2_isMoment 10 = .ok (.iconst 2, 1) := by decide +kernel
theorem dX2_isMoment_11 : decode cX2_isMoment 11 = .ok (.invokestatic 40, 3) := by decide +kernel
theorem dX2_isMoment_14 : decode cX2_isMoment 14 = .ok (.iload_n 3, 1) := by decide +kernel
theorem dX2_isMoment_15 : decode cX2_isMoment 15 = .ok (.ifCond .ne 16, 3) := by decide +kernel
theorem dX2_isMoment_18 : decode cX2_isMoment 18 = .ok (.iload 4, 2) := by decide +kernel
theorem dX2_isMoment_20 : decode cX2_isMoment 20 = .ok (.ifCond .ge 7, 3) := by decide +kernel
theorem dX2_isMoment_23 : decode cX2_isMoment 23 = .ok (.iconst 1, 1) := by decide +kernel
theorem dX2_isMoment_24 : decode cX2_isMoment 24 = .ok (.goto 35, 3) := by decide +kernel
theorem dX2_isMoment_27 : decode cX2_isMoment 27 = .ok (.iconst 0, 1) := by decide +kernel
theorem dX2_isMoment_28 : decode cX2_isMoment 28 = .ok (.goto 31, 3) := by decide +kernel
theorem dX2_isMoment_31 : decode cX2_isMoment 31 = .ok (.iload_n 3, 1) := by decide +kernel
theorem dX2_isMoment_32 : decode cX2_isMoment 32 = .ok (.iconst 1, 1) := by decide +kernel
theorem dX2_isMoment_33 : decode cX2_isMoment 33 = .ok (.if_icmp .ne 16, 3) := by decide +kernel
theorem dX2_isMoment_36 : decode cX2_isMoment 36 = .ok (.iload 4, 2) := by decide +kernel
theorem dX2_isMoment_38 : decode cX2_isMoment 38 = .ok (.ifCond .le 7, 3) := by decide +kernel
theorem dX2_isMoment_41 : decode cX2_isMoment 41 = .ok (.iconst 1, 1) := by decide +kernel
theorem dX2_isMoment_42 : decode cX2_isMoment 42 = .ok (.goto 17, 3) := by decide +kernel
theorem dX2_isMoment_45 : decode cX2_isMoment 45 = .ok (.iconst 0, 1) := by decide +kernel
theorem dX2_isMoment_46 : decode cX2_isMoment 46 = .ok (.goto 13, 3) := by decide +kernel
theorem dX2_isMoment_49 : decode cX2_isMoment 49 = .ok (.iload 4, 2) := by decide +kernel
theorem dX2_isMoment_51 : decode cX2_isMoment 51 = .ok (.ifCond .ne 7, 3) := by decide +kernel
theorem dX2_isMoment_54 : decode cX2_isMoment 54 = .ok (.iconst 1, 1) := by decide +kernel
theorem dX2_isMoment_55 : decode cX2_isMoment 55 = .ok (.goto 4, 3) := by decide +kernel
theorem dX2_isMoment_58 : decode cX2_isMoment 58 = .ok (.iconst 0, 1) := by decide +kernel
theorem dX2_isMoment_59 : decode cX2_isMoment 59 = .ok (.ireturn, 1) := by decide +kernel
set_option maxHeartbeats 4000000 in
set_option maxRecDepth 20000 in
theorem c_X2_isMoment (ad : Nat → Nat) (cs : ClassId × ClassId × ClassId) (K : mK) (rest : va_W) (p0 : Int32) (p1 : Int32) (p2 : Int32) : mCt (mTy cs) yX2_isMoment cX2_isMoment 5 (some .boolean) ⟨8, 3, 18, 125⟩ [.ref (ad 0), .int p0, .int p1, .int p2] (mWd ad cs K rest) (mWb ad cs K rest) (mTh [xI, xA] (mWd ad cs K rest)) := by
  refine mCt.of (by decide +kernel) (Nat.le_of_ble_eq_true rfl) (fun X hX hE => ?_)
  have hX : mOK X RX2 cX2_isMoment 5 ⟨8, 3, 18, 125⟩ [] (mTy cs) := hX
  refine r_aload_n hX dX2_isMoment_0 rfl rfl ?_
  refine r_iload_n hX dX2_isMoment_1 rfl rfl ?_
  refine r_iload_n hX dX2_isMoment_2 rfl rfl ?_
  refine r_callV hX (c_X2_orderMoment _ _ _ _ _ _) kv_X2_110 0 rfl rfl rfl rfl (Nat.le_of_ble_eq_true rfl) ⟨(Nat.le_of_ble_eq_true rfl), (Nat.le_of_ble_eq_true rfl)⟩ ⟨(Nat.le_of_ble_eq_true rfl), (Nat.le_of_ble_eq_true rfl)⟩ dX2_isMoment_3 (fun E ws9 z => r_out hX hE (Nat.le_of_ble_eq_true rfl) (Nat.le_of_ble_eq_true rfl) (mTh_sub mS1 z)) (fun v9 ws9 h1 => ?_)
  obtain ⟨r3, rfl, hw9⟩ := h1
  subst ws9
  dsimp only [mPush]
  refine r_istore hX dX2_isMoment_6 (by decide) rfl ?_
  refine r_iload_n hX dX2_isMoment_8 rfl rfl ?_
  refine r_iconst (v := 0) hX dX2_isMoment_9 (by decide) ?_
  refine r_iconst (v := 2) hX dX2_isMoment_10 (by decide) ?_
  refine r_callS hX (c_X2_requireWithin _ _ _ _ _) ks_X2_40 rfl rfl (Nat.le_of_ble_eq_true rfl) ⟨(Nat.le_of_ble_eq_true rfl), (Nat.le_of_ble_eq_true rfl)⟩ ⟨(Nat.le_of_ble_eq_true rfl), (Nat.le_of_ble_eq_true rfl)⟩ dX2_isMoment_11 (fun E ws9 z => r_out hX hE (Nat.le_of_ble_eq_true rfl) (Nat.le_of_ble_eq_true rfl) (⟨by rw [z.1]; exact List.mem_cons_of_mem _ List.mem_cons_self, z.2.1⟩)) (fun v9 ws9 h4 => ?_)
  obtain ⟨a6, rfl, hw9⟩ := h4
  subst ws9
  dsimp only [mPush]
  refine r_iload_n hX dX2_isMoment_14 rfl rfl ?_
  refine r_if_ne (tgt := 31) hX dX2_isMoment_15 (by decide) (fun c7 => ?_) (fun c7 => ?_)
  · refine r_iload_n hX dX2_isMoment_31 rfl rfl ?_
    refine r_iconst (v := 1) hX dX2_isMoment_32 (by decide) ?_
    refine r_icmp_ne (tgt := 49) hX dX2_isMoment_33 (by decide) (fun c8 => ?_) (fun c8 => ?_)
    · refine r_iload hX dX2_isMoment_49 rfl ?_
      refine r_if_ne (tgt := 58) hX dX2_isMoment_51 (by decide) (fun c9 => ?_) (fun c9 => ?_)
      · refine r_iconst (v := 0) hX dX2_isMoment_58 (by decide) ?_
        exact r_zret hX hE dX2_isMoment_59 (mB_n (Or.inl rfl)) (Nat.le_of_ble_eq_true rfl) (Nat.le_of_ble_eq_true rfl) ⟨_, K, (Or.inl rfl), rfl, rfl, rfl⟩
      · refine r_iconst (v := 1) hX dX2_isMoment_54 (by decide) ?_
        refine r_goto (tgt := 59) hX dX2_isMoment_55 (by decide) ?_
        exact r_zret hX hE dX2_isMoment_59 (mB_n (Or.inr rfl)) (Nat.le_of_ble_eq_true rfl) (Nat.le_of_ble_eq_true rfl) ⟨_, K, (Or.inr rfl), rfl, rfl, rfl⟩
    · refine r_iload hX dX2_isMoment_36 rfl ?_
      refine r_if_le (tgt := 45) hX dX2_isMoment_38 (by decide) (fun c10 => ?_) (fun c10 => ?_)
      · refine r_iconst (v := 0) hX dX2_isMoment_45 (by decide) ?_
        refine r_goto (tgt := 59) hX dX2_isMoment_46 (by decide) ?_
        exact r_zret hX hE dX2_isMoment_59 (mB_n (Or.inl rfl)) (Nat.le_of_ble_eq_true rfl) (Nat.le_of_ble_eq_true rfl) ⟨_, K, (Or.inl rfl), rfl, rfl, rfl⟩
      · refine r_iconst (v := 1) hX dX2_isMoment_41 (by decide) ?_
        refine r_goto (tgt := 59) hX dX2_isMoment_42 (by decide) ?_
        exact r_zret hX hE dX2_isMoment_59 (mB_n (Or.inr rfl)) (Nat.le_of_ble_eq_true rfl) (Nat.le_of_ble_eq_true rfl) ⟨_, K, (Or.inr rfl), rfl, rfl, rfl⟩
  · refine r_iload hX dX2_isMoment_18 rfl ?_
    refine r_if_ge (tgt := 27) hX dX2_isMoment_20 (by decide) (fun c11 => ?_) (fun c11 => ?_)
    · refine r_iconst (v := 0) hX dX2_isMoment_27 (by decide) ?_
      refine r_goto (tgt := 59) hX dX2_isMoment_28 (by decide) ?_
      exact r_zret hX hE dX2_isMoment_59 (mB_n (Or.inl rfl)) (Nat.le_of_ble_eq_true rfl) (Nat.le_of_ble_eq_true rfl) ⟨_, K, (Or.inl rfl), rfl, rfl, rfl⟩
    · refine r_iconst (v := 1) hX dX2_isMoment_23 (by decide) ?_
      refine r_goto (tgt := 59) hX dX2_isMoment_24 (by decide) ?_
      exact r_zret hX hE dX2_isMoment_59 (mB_n (Or.inr rfl)) (Nat.le_of_ble_eq_true rfl) (Nat.le_of_ble_eq_true rfl) ⟨_, K, (Or.inr rfl), rfl, rfl, rfl⟩
theorem dX2_copyMoment_0 : decode cX2_copyMoment 0 = .ok (.iload_n 1, 1) := by decide +kernel
theorem dX2_copyMoment_1 : decode cX2_copyMoment 1 = .ok (.aload_n 0, 1) := by decide +kernel
theorem dX2_copyMoment_2 : decode cX2_copyMoment 2 = .ok (.getfield 13, 3) := by decide +kernel
theorem dX2_copyMoment_5 : decode cX2_copyMoment 5 = .ok (.arraylength, 1) := by decide +kernel
theorem dX2_copyMoment_6 : decode cX2_copyMoment 6 = .ok (.invokestatic 34, 3) := by decide +kernel
theorem dX2_copyMoment_9 : decode cX2_copyMoment 9 = .ok (.iload_n 2, 1) := by decide +kernel
theorem dX2_copyMoment_10 : decode cX2_copyMoment 10 = .ok (.aload_n 0, 1) := by decide +kernel
theorem dX2_copyMoment_11 : decode cX2_copyMoment 11 = .ok (.getfield 13, 3) := by decide +kernel
theorem dX2_copyMoment_14 : decode cX2_copyMoment 14 = .ok (.arraylength, 1) := by decide +kernel
theorem dX2_copyMoment_15 : decode cX2_copyMoment 15 = .ok (.invokestatic 34, 3) := by decide +kernel
theorem dX2_copyMoment_18 : decode cX2_copyMoment 18 = .ok (.aload_n 0, 1) := by decide +kernel
theorem dX2_copyMoment_19 : decode cX2_copyMoment 19 = .ok (.iload_n 1, 1) := by decide +kernel
theorem dX2_copyMoment_20 : decode cX2_copyMoment 20 = .ok (.aload_n 0, 1) := by decide +kernel
theorem dX2_copyMoment_21 : decode cX2_copyMoment 21 = .ok (.getfield 13, 3) := by decide +kernel
theorem dX2_copyMoment_24 : decode cX2_copyMoment 24 = .ok (.iload_n 2, 1) := by decide +kernel
theorem dX2_copyMoment_25 : decode cX2_copyMoment 25 = .ok (.laload, 1) := by decide +kernel
theorem dX2_copyMoment_26 : decode cX2_copyMoment 26 = .ok (.invokevirtual 74, 3) := by decide +kernel
theorem dX2_copyMoment_29 : decode cX2_copyMoment 29 = .ok (.ireturn, 1) := by decide +kernel
set_option maxHeartbeats 4000000 in
set_option maxRecDepth 20000 in
theorem c_X2_copyMoment (ad : Nat → Nat) (cs : ClassId × ClassId × ClassId) (K : mK) (rest : va_W) (p0 : Int32) (p1 : Int32) : mCt (mTy cs) yX2_copyMoment cX2_copyMoment 3 (some .int) ⟨7, 2, 12, 103⟩ [.ref (ad 0), .int p0, .int p1] (mWd ad cs K rest) (mWi ad cs K rest) (mTh [xI] (mWd ad cs K rest)) := by
  refine mCt.of (by decide +kernel) (Nat.le_of_ble_eq_true rfl) (fun X hX hE => ?_)
  have hX : mOK X RX2 cX2_copyMoment 3 ⟨7, 2, 12, 103⟩ [] (mTy cs) := hX
  refine r_iload_n hX dX2_copyMoment_0 rfl rfl ?_
  refine r_aload_n hX dX2_copyMoment_1 rfl rfl ?_
  refine r_get hX kf_X2_13 0 rfl rfl dX2_copyMoment_2 ?_
  refine r_alen (v := nI 4) hX 2 1 rfl rfl rfl dX2_copyMoment_5 ?_
  refine r_callS hX (c_X2_requireOne _ _ _ 4 (by decide)) ks_X2_34 rfl rfl (Nat.le_of_ble_eq_true rfl) ⟨(Nat.le_of_ble_eq_true rfl), (Nat.le_of_ble_eq_true rfl)⟩ ⟨(Nat.le_of_ble_eq_true rfl), (Nat.le_of_ble_eq_true rfl)⟩ dX2_copyMoment_6 (fun E ws9 z => r_out hX hE (Nat.le_of_ble_eq_true rfl) (Nat.le_of_ble_eq_true rfl) (⟨by rw [z.1]; exact List.mem_cons_self, z.2.1⟩)) (fun v9 ws9 h1 => ?_)
  obtain ⟨i3, hhi3, rfl, rfl, hw9⟩ := h1
  subst ws9
  dsimp only [mPush]
  refine r_iload_n hX dX2_copyMoment_9 rfl rfl ?_
  refine r_aload_n hX dX2_copyMoment_10 rfl rfl ?_
  refine r_get hX kf_X2_13 0 rfl rfl dX2_copyMoment_11 ?_
  refine r_alen (v := nI 4) hX 2 1 rfl rfl rfl dX2_copyMoment_14 ?_
  refine r_callS hX (c_X2_requireOne _ _ _ 4 (by decide)) ks_X2_34 rfl rfl (Nat.le_of_ble_eq_true rfl) ⟨(Nat.le_of_ble_eq_true rfl), (Nat.le_of_ble_eq_true rfl)⟩ ⟨(Nat.le_of_ble_eq_true rfl), (Nat.le_of_ble_eq_true rfl)⟩ dX2_copyMoment_15 (fun E ws9 z => r_out hX hE (Nat.le_of_ble_eq_true rfl) (Nat.le_of_ble_eq_true rfl) (⟨by rw [z.1]; exact List.mem_cons_self, z.2.1⟩)) (fun v9 ws9 h4 => ?_)
  obtain ⟨i6, hhi6, rfl, rfl, hw9⟩ := h4
  subst ws9
  dsimp only [mPush]
  refine r_aload_n hX dX2_copyMoment_18 rfl rfl ?_
  refine r_iload_n hX dX2_copyMoment_19 rfl rfl ?_
  refine r_aload_n hX dX2_copyMoment_20 rfl rfl ?_
  refine r_get hX kf_X2_13 0 rfl rfl dX2_copyMoment_21 ?_
  refine r_iload_n hX dX2_copyMoment_24 rfl rfl ?_
  refine r_lald hX 2 1 rfl rfl (vp_in_nI hhi6 (by decide)) dX2_copyMoment_25 ?_
  refine r_callV hX (c_X2_putNumber _ _ _ _ i3 hhi3 _) kv_X2_74 0 rfl rfl rfl rfl (Nat.le_of_ble_eq_true rfl) ⟨(Nat.le_of_ble_eq_true rfl), (Nat.le_of_ble_eq_true rfl)⟩ ⟨(Nat.le_of_ble_eq_true rfl), (Nat.le_of_ble_eq_true rfl)⟩ dX2_copyMoment_26 (fun _ _ z => False.elim z) (fun v9 ws9 h7 => ?_)
  obtain ⟨r9, K10, hK10, rfl, hw9⟩ := h7
  subst ws9
  dsimp only [mPush]
  exact r_iret hX hE dX2_copyMoment_29 (Nat.le_of_ble_eq_true rfl) (Nat.le_of_ble_eq_true rfl) ⟨_, K10, (hK10.trans rfl), rfl, rfl⟩
theorem dX2_date_0 : decode cX2_date 0 = .ok (.aload_n 0, 1) := by decide +kernel
theorem dX2_date_1 : decode cX2_date 1 = .ok (.getfield 20, 3) := by decide +kernel
theorem dX2_date_4 : decode cX2_date 4 = .ok (.iload_n 1, 1) := by decide +kernel
theorem dX2_date_5 : decode cX2_date 5 = .ok (.invokestatic 84, 3) := by decide +kernel
theorem dX2_date_8 : decode cX2_date 8 = .ok (.astore 7, 2) := by decide +kernel
theorem dX2_date_10 : decode cX2_date 10 = .ok (.aload_n 0, 1) := by decide +kernel
theorem dX2_date_11 : decode cX2_date 11 = .ok (.iload 6, 2) := by decide +kernel
theorem dX2_date_13 : decode cX2_date 13 = .ok (.invokevirtual 64, 3) := by decide +kernel
theorem dX2_date_16 : decode cX2_date 16 = .ok (.istore 8, 2) := by decide +kernel
theorem dX2_date_18 : decode cX2_date 18 = .ok (.iload_n 3, 1) := by decide +kernel
theorem dX2_date_19 : decode cX2_date 19 = .ok (.iconst 0, 1) := by decide +kernel
theorem dX2_date_20 : decode cX2_date 20 = .ok (.sipush 9999, 3) := by decide +kernel
theorem dX2_date_23 : decode cX2_date 23 = .ok (.invokestatic 40, 3) := by decide +kernel
theorem dX2_date_26 : decode cX2_date 26 = .ok (.iload 4, 2) := by decide +kernel
theorem dX2_date_28 : decode cX2_date 28 = .ok (.iconst 0, 1) := by decide +kernel
theorem dX2_date_29 : decode cX2_date 29 = .ok (.ldc 114, 2) := by decide +kernel
theorem dX2_date_31 : decode cX2_date 31 = .ok (.invokestatic 40, 3) := by decide +kernel
theorem dX2_date_34 : decode cX2_date 34 = .ok (.iload 5, 2) := by decide +kernel
theorem dX2_date_36 : decode cX2_date 36 = .ok (.iconst 0, 1) := by decide +kernel
theorem dX2_date_37 : decode cX2_date 37 = .ok (.ldc 115, 2) := by decide +kernel
theorem dX2_date_39 : decode cX2_date 39 = .ok (.invokestatic 40, 3) := by decide +kernel
theorem dX2_date_42 : decode cX2_date 42 = .ok (.iload_n 3, 1) := by decide +kernel
theorem dX2_date_43 : decode cX2_date 43 = .ok (.bipush 100, 2) := by decide +kernel
theorem dX2_date_45 : decode cX2_date 45 = .ok (.idiv, 1) := by decide +kernel
theorem dX2_date_46 : decode cX2_date 46 = .ok (.istore 9, 2) := by decide +kernel
theorem dX2_date_48 : decode cX2_date 48 = .ok (.iload_n 3, 1) := by decide +kernel
theorem dX2_date_49 : decode cX2_date 49 = .ok (.bipush 100, 2) := by decide +kernel
theorem dX2_date_51 : decode cX2_date 51 = .ok (.irem, 1) := by decide +kernel
theorem dX2_date_52 : decode cX2_date 52 = .ok (.istore 10, 2) := by decide +kernel
theorem dX2_date_54 : decode cX2_date 54 = .ok (.iload_n 2, 1) := by decide +kernel
theorem dX2_date_55 : decode cX2_date 55 = .ok (.i2l, 1) := by decide +kernel
theorem dX2_date_56 : decode cX2_date 56 = .ok (.ldc2_w 116, 3) := by decide +kernel
theorem dX2_date_59 : decode cX2_date 59 = .ok (.ldc2_w 118, 3) := by decide +kernel
theorem dX2_date_62 : decode cX2_date 62 = .ok (.invokestatic 48, 3) := by decide +kernel
theorem dX2_date_65 : decode cX2_date 65 = .ok (.ifCond .eq 14, 3) := by decide +kernel
theorem dX2_date_68 : decode cX2_date 68 = .ok (.iload_n 2, 1) := by decide +kernel
theorem dX2_date_69 : decode cX2_date 69 = .ok (.iload 9, 2) := by decide +kernel
theorem dX2_date_71 : decode cX2_date 71 = .ok (.iload 10, 2) := by decide +kernel
theorem dX2_date_73 : decode cX2_date 73 = .ok (.invokestatic 120, 3) := by decide +kernel
theorem dX2_date_76 : decode cX2_date 76 = .ok (.ifCond .ne 8, 3) := by decide +kernel
theorem dX2_date_79 : decode cX2_date 79 = .ok (.aload_n 0, 1) := by decide +kernel
theorem dX2_date_80 : decode cX2_date 80 = .ok (.invokevirtual 56, 3) := by decide +kernel
theorem dX2_date_83 : decode cX2_date 83 = .ok (.ireturn, 1) := by decide +kernel
theorem dX2_date_84 : decode cX2_date 84 = .ok (.aload_n 0, 1) := by decide +kernel
theorem dX2_date_85 : decode cX2_date 85 = .ok (.aload 7, 2) := by decide +kernel
theorem dX2_date_87 : decode cX2_date 87 = .ok (.iload_n 2, 1) := by decide +kernel
theorem dX2_date_88 : decode cX2_date 88 = .ok (.iload 9, 2) := by decide +kernel
theorem dX2_date_90 : decode cX2_date 90 = .ok (.iload 10, 2) := by decide +kernel
theorem dX2_date_92 : decode cX2_date 92 = .ok (.invokestatic 126, 3) := by decide +kernel
theorem dX2_date_95 : decode cX2_date 95 = .ok (.i2l, 1) := by decide +kernel
theorem dX2_date_96 : decode cX2_date 96 = .ok (.ldc2_w 130, 3) := by decide +kernel
theorem dX2_date_99 : decode cX2_date 99 = .ok (.lmul, 1) := by decide +kernel
theorem dX2_date_100 : decode cX2_date 100 = .ok (.iload 4, 2) := by decide +kernel
theorem dX2_date_102 : decode cX2_date 102 = .ok (.i2l, 1) := by decide +kernel
theorem dX2_date_103 : decode cX2_date 103 = .ok (.ladd, 1) := by decide +kernel
theorem dX2_date_104 : decode cX2_date 104 = .ok (.iload 5, 2) := by decide +kernel
theorem dX2_date_106 : decode cX2_date 106 = .ok (.iload 8, 2) := by decide +kernel
theorem dX2_date_108 : decode cX2_date 108 = .ok (.invokevirtual 132, 3) := by decide +kernel
theorem dX2_date_111 : decode cX2_date 111 = .ok (.ireturn, 1) := by decide +kernel
set_option maxHeartbeats 4000000 in
set_option maxRecDepth 20000 in
theorem c_X2_date (ad : Nat → Nat) (cs : ClassId × ClassId × ClassId) (K : mK) (rest : va_W) (p0 : Int32) (p1 : Int32) (p2 : Int32) (p3 : Int32) (p4 : Int32) (p5 : Int32) : mCt (mTy cs) yX2_date cX2_date 11 (some .int) ⟨8, 5, 30, 124⟩ [.ref (ad 0), .int p0, .int p1, .int p2, .int p3, .int p4, .int p5] (mWd ad cs K rest) (mWi ad cs K rest) (mTh [xI, xA] (mWd ad cs K rest)) := by
  refine mCt.of (by decide +kernel) (Nat.le_of_ble_eq_true rfl) (fun X hX hE => ?_)
  have hX : mOK X RX2 cX2_date 11 ⟨8, 5, 30, 124⟩ [] (mTy cs) := hX
  refine r_aload_n hX dX2_date_0 rfl rfl ?_
  refine r_get hX kf_X2_20 0 rfl rfl dX2_date_1 ?_
  refine r_iload_n hX dX2_date_4 rfl rfl ?_
  refine r_callS hX (c_X2_at ad cs _ 3 _ 4 0 rfl (by decide) _) ks_X2_84 rfl rfl (Nat.le_of_ble_eq_true rfl) ⟨(Nat.le_of_ble_eq_true rfl), (Nat.le_of_ble_eq_true rfl)⟩ ⟨(Nat.le_of_ble_eq_true rfl), (Nat.le_of_ble_eq_true rfl)⟩ dX2_date_5 (fun E ws9 z => r_out hX hE (Nat.le_of_ble_eq_true rfl) (Nat.le_of_ble_eq_true rfl) (⟨by rw [z.1]; exact List.mem_cons_self, z.2.1⟩)) (fun v9 ws9 h1 => ?_)
  obtain ⟨i3, hhi3, rfl, rfl, hw9⟩ := h1
  subst ws9
  dsimp only [mPush]
  refine r_astore hX dX2_date_8 (by decide) rfl ?_
  refine r_aload_n hX dX2_date_10 rfl rfl ?_
  refine r_iload hX dX2_date_11 rfl ?_
  refine r_callV hX (c_X2_seconds _ _ _ _ _) kv_X2_64 0 rfl rfl rfl rfl (Nat.le_of_ble_eq_true rfl) ⟨(Nat.le_of_ble_eq_true rfl), (Nat.le_of_ble_eq_true rfl)⟩ ⟨(Nat.le_of_ble_eq_true rfl), (Nat.le_of_ble_eq_true rfl)⟩ dX2_date_13 (fun E ws9 z => r_out hX hE (Nat.le_of_ble_eq_true rfl) (Nat.le_of_ble_eq_true rfl) (⟨by rw [z.1]; exact List.mem_cons_self, z.2.1⟩)) (fun v9 ws9 h4 => ?_)
  obtain ⟨i6, hhi6, rfl, rfl, hw9⟩ := h4
  subst ws9
  dsimp only [mPush]
  refine r_istore hX dX2_date_16 (by decide) rfl ?_
  refine r_iload_n hX dX2_date_18 rfl rfl ?_
  refine r_iconst (v := 0) hX dX2_date_19 (by decide) ?_
  refine r_sipush (v := 9999) hX dX2_date_20 (by decide) ?_
  refine r_callS hX (c_X2_requireWithin _ _ _ _ _) ks_X2_40 rfl rfl (Nat.le_of_ble_eq_true rfl) ⟨(Nat.le_of_ble_eq_true rfl), (Nat.le_of_ble_eq_true rfl)⟩ ⟨(Nat.le_of_ble_eq_true rfl), (Nat.le_of_ble_eq_true rfl)⟩ dX2_date_23 (fun E ws9 z => r_out hX hE (Nat.le_of_ble_eq_true rfl) (Nat.le_of_ble_eq_true rfl) (⟨by rw [z.1]; exact List.mem_cons_of_mem _ List.mem_cons_self, z.2.1⟩)) (fun v9 ws9 h7 => ?_)
  obtain ⟨a9, rfl, hw9⟩ := h7
  subst ws9
  dsimp only [mPush]
  refine r_iload hX dX2_date_26 rfl ?_
  refine r_iconst (v := 0) hX dX2_date_28 (by decide) ?_
  refine r_ldc hX kc_X2_114 dX2_date_29 ?_
  refine r_callS hX (c_X2_requireWithin _ _ _ _ _) ks_X2_40 rfl rfl (Nat.le_of_ble_eq_true rfl) ⟨(Nat.le_of_ble_eq_true rfl), (Nat.le_of_ble_eq_true rfl)⟩ ⟨(Nat.le_of_ble_eq_true rfl), (Nat.le_of_ble_eq_true rfl)⟩ dX2_date_31 (fun E ws9 z => r_out hX hE (Nat.le_of_ble_eq_true rfl) (Nat.le_of_ble_eq_true rfl) (⟨by rw [z.1]; exact List.mem_cons_of_mem _ List.mem_cons_self, z.2.1⟩)) (fun v9 ws9 h10 => ?_)
  obtain ⟨a12, rfl, hw9⟩ := h10
  subst ws9
  dsimp only [mPush]
  refine r_iload hX dX2_date_34 rfl ?_
  refine r_iconst (v := 0) hX dX2_date_36 (by decide) ?_
  refine r_ldc hX kc_X2_115 dX2_date_37 ?_
  refine r_callS hX (c_X2_requireWithin _ _ _ _ _) ks_X2_40 rfl rfl (Nat.le_of_ble_eq_true rfl) ⟨(Nat.le_of_ble_eq_true rfl), (Nat.le_of_ble_eq_true rfl)⟩ ⟨(Nat.le_of_ble_eq_true rfl), (Nat.le_of_ble_eq_true rfl)⟩ dX2_date_39 (fun E ws9 z => r_out hX hE (Nat.le_of_ble_eq_true rfl) (Nat.le_of_ble_eq_true rfl) (⟨by rw [z.1]; exact List.mem_cons_of_mem _ List.mem_cons_self, z.2.1⟩)) (fun v9 ws9 h13 => ?_)
  obtain ⟨a15, rfl, hw9⟩ := h13
  subst ws9
  dsimp only [mPush]
  refine r_iload_n hX dX2_date_42 rfl rfl ?_
  refine r_bipush (v := 100) hX dX2_date_43 (by decide) ?_
  refine r_idiv hX dX2_date_45 (by first | decide | assumption) ?_
  refine r_istore hX dX2_date_46 (by decide) rfl ?_
  refine r_iload_n hX dX2_date_48 rfl rfl ?_
  refine r_bipush (v := 100) hX dX2_date_49 (by decide) ?_
  refine r_irem hX dX2_date_51 (by first | decide | assumption) ?_
  refine r_istore hX dX2_date_52 (by decide) rfl ?_
  refine r_iload_n hX dX2_date_54 rfl rfl ?_
  refine r_i2l hX dX2_date_55 ?_
  refine r_ldc2 hX kc_X2_116 dX2_date_56 ?_
  refine r_ldc2 hX kc_X2_118 dX2_date_59 ?_
  refine r_callS hX (c_X2_isWithin _ _ _ _ _) ks_X2_48 rfl rfl (Nat.le_of_ble_eq_true rfl) ⟨(Nat.le_of_ble_eq_true rfl), (Nat.le_of_ble_eq_true rfl)⟩ ⟨(Nat.le_of_ble_eq_true rfl), (Nat.le_of_ble_eq_true rfl)⟩ dX2_date_62 (fun _ _ z => False.elim z) (fun v9 ws9 h16 => ?_)
  obtain ⟨rfl, hw9⟩ := h16
  subst ws9
  dsimp only [mPush]
  refine r_if_eq (tgt := 79) hX dX2_date_65 (by decide) (fun c18 => ?_) (fun c18 => ?_)
  · refine r_aload_n hX dX2_date_79 rfl rfl ?_
    refine r_callV hX (c_X2_refused _ _ _ _) kv_X2_56 0 rfl rfl rfl rfl (Nat.le_of_ble_eq_true rfl) ⟨(Nat.le_of_ble_eq_true rfl), (Nat.le_of_ble_eq_true rfl)⟩ ⟨(Nat.le_of_ble_eq_true rfl), (Nat.le_of_ble_eq_true rfl)⟩ dX2_date_80 (fun _ _ z => False.elim z) (fun v9 ws9 h19 => ?_)
    obtain ⟨r21, K22, hK22, rfl, hw9⟩ := h19
    subst ws9
    dsimp only [mPush]
    exact r_iret hX hE dX2_date_83 (Nat.le_of_ble_eq_true rfl) (Nat.le_of_ble_eq_true rfl) ⟨_, K22, (hK22.trans rfl), rfl, rfl⟩
  · refine r_iload_n hX dX2_date_68 rfl rfl ?_
    refine r_iload hX dX2_date_69 rfl ?_
    refine r_iload hX dX2_date_71 rfl ?_
    refine r_callS hX (c_X0_isDay _ _ _ _ _) ks_X2_120 rfl rfl (Nat.le_of_ble_eq_true rfl) ⟨(Nat.le_of_ble_eq_true rfl), (Nat.le_of_ble_eq_true rfl)⟩ ⟨(Nat.le_of_ble_eq_true rfl), (Nat.le_of_ble_eq_true rfl)⟩ dX2_date_73 (fun _ _ z => False.elim z) (fun v9 ws9 h23 => ?_)
    obtain ⟨r25, br25, rfl, hw9⟩ := h23
    subst ws9
    dsimp only [mPush]
    refine r_if_ne (tgt := 84) hX dX2_date_76 (by decide) (fun c26 => ?_) (fun c26 => ?_)
    · refine r_aload_n hX dX2_date_84 rfl rfl ?_
      refine r_aload hX dX2_date_85 rfl ?_
      refine r_iload_n hX dX2_date_87 rfl rfl ?_
      refine r_iload hX dX2_date_88 rfl ?_
      refine r_iload hX dX2_date_90 rfl ?_
      refine r_callS hX (c_X0_dayOf _ _ _ _ _) ks_X2_126 rfl rfl (Nat.le_of_ble_eq_true rfl) ⟨(Nat.le_of_ble_eq_true rfl), (Nat.le_of_ble_eq_true rfl)⟩ ⟨(Nat.le_of_ble_eq_true rfl), (Nat.le_of_ble_eq_true rfl)⟩ dX2_date_92 (fun _ _ z => False.elim z) (fun v9 ws9 h27 => ?_)
      obtain ⟨r29, rfl, hw9⟩ := h27
      subst ws9
      dsimp only [mPush]
      refine r_i2l hX dX2_date_95 ?_
      refine r_ldc2 hX kc_X2_130 dX2_date_96 ?_
      refine r_lmul hX dX2_date_99 ?_
      refine r_iload hX dX2_date_100 rfl ?_
      refine r_i2l hX dX2_date_102 ?_
      refine r_ladd hX dX2_date_103 ?_
      refine r_iload hX dX2_date_104 rfl ?_
      refine r_iload hX dX2_date_106 rfl ?_
      refine r_callV hX (c_X2_putLocal _ _ _ _ i3 (by omega) _ _ _) kv_X2_132 0 rfl rfl rfl rfl (Nat.le_of_ble_eq_true rfl) ⟨(Nat.le_of_ble_eq_true rfl), (Nat.le_of_ble_eq_true rfl)⟩ ⟨(Nat.le_of_ble_eq_true rfl), (Nat.le_of_ble_eq_true rfl)⟩ dX2_date_108 (fun _ _ z => False.elim z) (fun v9 ws9 h30 => ?_)
      obtain ⟨r32, K33, hK33, rfl, hw9⟩ := h30
      subst ws9
      dsimp only [mPush]
      exact r_iret hX hE dX2_date_111 (Nat.le_of_ble_eq_true rfl) (Nat.le_of_ble_eq_true rfl) ⟨_, K33, (hK33.trans rfl), rfl, rfl⟩
    · refine r_aload_n hX dX2_date_79 rfl rfl ?_
      refine r_callV hX (c_X2_refused _ _ _ _) kv_X2_56 0 rfl rfl rfl rfl (Nat.le_of_ble_eq_true rfl) ⟨(Nat.le_of_ble_eq_true rfl), (Nat.le_of_ble_eq_true rfl)⟩ ⟨(Nat.le_of_ble_eq_true rfl), (Nat.le_of_ble_eq_true rfl)⟩ dX2_date_80 (fun _ _ z => False.elim z) (fun v9 ws9 h34 => ?_)
      obtain ⟨r36, K37, hK37, rfl, hw9⟩ := h34
      subst ws9
      dsimp only [mPush]
      exact r_iret hX hE dX2_date_83 (Nat.le_of_ble_eq_true rfl) (Nat.le_of_ble_eq_true rfl) ⟨_, K37, (hK37.trans rfl), rfl, rfl⟩
theorem dX2_dateOf_0 : decode cX2_dateOf 0 = .ok (.aload_n 0, 1) := by decide +kernel
theorem dX2_dateOf_1 : decode cX2_dateOf 1 = .ok (.getfield 20, 3) := by decide +kernel
theorem dX2_dateOf_4 : decode cX2_dateOf 4 = .ok (.iload_n 1, 1) := by decide +kernel
theorem dX2_dateOf_5 : decode cX2_dateOf 5 = .ok (.invokestatic 84, 3) := by decide +kernel
theorem dX2_dateOf_8 : decode cX2_dateOf 8 = .ok (.astore 4, 2) := by decide +kernel
theorem dX2_dateOf_10 : decode cX2_dateOf 10 = .ok (.iload_n 2, 1) := by decide +kernel
theorem dX2_dateOf_11 : decode cX2_dateOf 11 = .ok (.aload_n 0, 1) := by decide +kernel
theorem dX2_dateOf_12 : decode cX2_dateOf 12 = .ok (.getfield 13, 3) := by decide +kernel
theorem dX2_dateOf_15 : decode cX2_dateOf 15 = .ok (.arraylength, 1) := by decide +kernel
theorem dX2_dateOf_16 : decode cX2_dateOf 16 = .ok (.invokestatic 34, 3) := by decide +kernel
theorem dX2_dateOf_19 : decode cX2_dateOf 19 = .ok (.aload_n 0, 1) := by decide +kernel
theorem dX2_dateOf_20 : decode cX2_dateOf 20 = .ok (.iload_n 3, 1) := by decide +kernel
theorem dX2_dateOf_21 : decode cX2_dateOf 21 = .ok (.invokevirtual 64, 3) := by decide +kernel
theorem dX2_dateOf_24 : decode cX2_dateOf 24 = .ok (.istore 5, 2) := by decide +kernel
theorem dX2_dateOf_26 : decode cX2_dateOf 26 = .ok (.aload_n 0, 1) := by decide +kernel
theorem dX2_dateOf_27 : decode cX2_dateOf 27 = .ok (.getfield 13, 3) := by decide +kernel
theorem dX2_dateOf_30 : decode cX2_dateOf 30 = .ok (.iload_n 2, 1) := by decide +kernel
theorem dX2_dateOf_31 : decode cX2_dateOf 31 = .ok (.laload, 1) := by decide +kernel
theorem dX2_dateOf_32 : decode cX2_dateOf 32 = .ok (.lstore 6, 2) := by decide +kernel
theorem dX2_dateOf_34 : decode cX2_dateOf 34 = .ok (.aload_n 0, 1) := by decide +kernel
theorem dX2_dateOf_35 : decode cX2_dateOf 35 = .ok (.aload 4, 2) := by decide +kernel
theorem dX2_dateOf_37 : decode cX2_dateOf 37 = .ok (.lload 6, 2) := by decide +kernel
theorem dX2_dateOf_39 : decode cX2_dateOf 39 = .ok (.invokestatic 96, 3) := by decide +kernel
theorem dX2_dateOf_42 : decode cX2_dateOf 42 = .ok (.iload 5, 2) := by decide +kernel
theorem dX2_dateOf_44 : decode cX2_dateOf 44 = .ok (.i2l, 1) := by decide +kernel
theorem dX2_dateOf_45 : decode cX2_dateOf 45 = .ok (.ladd, 1) := by decide +kernel
theorem dX2_dateOf_46 : decode cX2_dateOf 46 = .ok (.lload 6, 2) := by decide +kernel
theorem dX2_dateOf_48 : decode cX2_dateOf 48 = .ok (.invokestatic 92, 3) := by decide +kernel
theorem dX2_dateOf_51 : decode cX2_dateOf 51 = .ok (.iload 5, 2) := by decide +kernel
theorem dX2_dateOf_53 : decode cX2_dateOf 53 = .ok (.invokevirtual 132, 3) := by decide +kernel
theorem dX2_dateOf_56 : decode cX2_dateOf 56 = .ok (.ireturn, 1) := by decide +kernel
set_option maxHeartbeats 4000000 in
set_option maxRecDepth 20000 in
theorem c_X2_dateOf (ad : Nat → Nat) (cs : ClassId × ClassId × ClassId) (K : mK) (rest : va_W) (p0 : Int32) (p1 : Int32) (p2 : Int32) : mCt (mTy cs) yX2_dateOf cX2_dateOf 8 (some .int) ⟨8, 3, 18, 124⟩ [.ref (ad 0), .int p0, .int p1, .int p2] (mWd ad cs K rest) (mWi ad cs K rest) (mTh [xI] (mWd ad cs K rest)) := by
  refine mCt.of (by decide +kernel) (Nat.le_of_ble_eq_true rfl) (fun X hX hE => ?_)
  have hX : mOK X RX2 cX2_dateOf 8 ⟨8, 3, 18, 124⟩ [] (mTy cs) := hX
  refine r_aload_n hX dX2_dateOf_0 rfl rfl ?_
  refine r_get hX kf_X2_20 0 rfl rfl dX2_dateOf_1 ?_
  refine r_iload_n hX dX2_dateOf_4 rfl rfl ?_
  refine r_callS hX (c_X2_at ad cs _ 3 _ 4 0 rfl (by decide) _) ks_X2_84 rfl rfl (Nat.le_of_ble_eq_true rfl) ⟨(Nat.le_of_ble_eq_true rfl), (Nat.le_of_ble_eq_true rfl)⟩ ⟨(Nat.le_of_ble_eq_true rfl), (Nat.le_of_ble_eq_true rfl)⟩ dX2_dateOf_5 (fun E ws9 z => r_out hX hE (Nat.le_of_ble_eq_true rfl) (Nat.le_of_ble_eq_true rfl) (⟨by rw [z.1]; exact List.mem_cons_self, z.2.1⟩)) (fun v9 ws9 h1 => ?_)
  obtain ⟨i3, hhi3, rfl, rfl, hw9⟩ := h1
  subst ws9
  dsimp only [mPush]
  refine r_astore hX dX2_dateOf_8 (by decide) rfl ?_
  refine r_iload_n hX dX2_dateOf_10 rfl rfl ?_
  refine r_aload_n hX dX2_dateOf_11 rfl rfl ?_
  refine r_get hX kf_X2_13 0 rfl rfl dX2_dateOf_12 ?_
  refine r_alen (v := nI 4) hX 2 1 rfl rfl rfl dX2_dateOf_15 ?_
  refine r_callS hX (c_X2_requireOne _ _ _ 4 (by decide)) ks_X2_34 rfl rfl (Nat.le_of_ble_eq_true rfl) ⟨(Nat.le_of_ble_eq_true rfl), (Nat.le_of_ble_eq_true rfl)⟩ ⟨(Nat.le_of_ble_eq_true rfl), (Nat.le_of_ble_eq_true rfl)⟩ dX2_dateOf_16 (fun E ws9 z => r_out hX hE (Nat.le_of_ble_eq_true rfl) (Nat.le_of_ble_eq_true rfl) (⟨by rw [z.1]; exact List.mem_cons_self, z.2.1⟩)) (fun v9 ws9 h4 => ?_)
  obtain ⟨i6, hhi6, rfl, rfl, hw9⟩ := h4
  subst ws9
  dsimp only [mPush]
  refine r_aload_n hX dX2_dateOf_19 rfl rfl ?_
  refine r_iload_n hX dX2_dateOf_20 rfl rfl ?_
  refine r_callV hX (c_X2_seconds _ _ _ _ _) kv_X2_64 0 rfl rfl rfl rfl (Nat.le_of_ble_eq_true rfl) ⟨(Nat.le_of_ble_eq_true rfl), (Nat.le_of_ble_eq_true rfl)⟩ ⟨(Nat.le_of_ble_eq_true rfl), (Nat.le_of_ble_eq_true rfl)⟩ dX2_dateOf_21 (fun E ws9 z => r_out hX hE (Nat.le_of_ble_eq_true rfl) (Nat.le_of_ble_eq_true rfl) (⟨by rw [z.1]; exact List.mem_cons_self, z.2.1⟩)) (fun v9 ws9 h7 => ?_)
  obtain ⟨i9, hhi9, rfl, rfl, hw9⟩ := h7
  subst ws9
  dsimp only [mPush]
  refine r_istore hX dX2_dateOf_24 (by decide) rfl ?_
  refine r_aload_n hX dX2_dateOf_26 rfl rfl ?_
  refine r_get hX kf_X2_13 0 rfl rfl dX2_dateOf_27 ?_
  refine r_iload_n hX dX2_dateOf_30 rfl rfl ?_
  refine r_lald hX 2 1 rfl rfl (vp_in_nI hhi6 (by decide)) dX2_dateOf_31 ?_
  refine r_lstore hX dX2_dateOf_32 (by decide) rfl ?_
  refine r_aload_n hX dX2_dateOf_34 rfl rfl ?_
  refine r_aload hX dX2_dateOf_35 rfl ?_
  refine r_lload hX dX2_dateOf_37 rfl ?_
  refine r_callS hX (c_X2_secondOf _ _ _) ks_X2_96 rfl rfl (Nat.le_of_ble_eq_true rfl) ⟨(Nat.le_of_ble_eq_true rfl), (Nat.le_of_ble_eq_true rfl)⟩ ⟨(Nat.le_of_ble_eq_true rfl), (Nat.le_of_ble_eq_true rfl)⟩ dX2_dateOf_39 (fun _ _ z => False.elim z) (fun v9 ws9 h10 => ?_)
  obtain ⟨r12, rfl, hw9⟩ := h10
  subst ws9
  dsimp only [mPush]
  refine r_iload hX dX2_dateOf_42 rfl ?_
  refine r_i2l hX dX2_dateOf_44 ?_
  refine r_ladd hX dX2_dateOf_45 ?_
  refine r_lload hX dX2_dateOf_46 rfl ?_
  refine r_callS hX (c_X2_nanoOf _ _ _) ks_X2_92 rfl rfl (Nat.le_of_ble_eq_true rfl) ⟨(Nat.le_of_ble_eq_true rfl), (Nat.le_of_ble_eq_true rfl)⟩ ⟨(Nat.le_of_ble_eq_true rfl), (Nat.le_of_ble_eq_true rfl)⟩ dX2_dateOf_48 (fun _ _ z => False.elim z) (fun v9 ws9 h13 => ?_)
  obtain ⟨r15, rfl, hw9⟩ := h13
  subst ws9
  dsimp only [mPush]
  refine r_iload hX dX2_dateOf_51 rfl ?_
  refine r_callV hX (c_X2_putLocal _ _ _ _ i3 (by omega) _ _ _) kv_X2_132 0 rfl rfl rfl rfl (Nat.le_of_ble_eq_true rfl) ⟨(Nat.le_of_ble_eq_true rfl), (Nat.le_of_ble_eq_true rfl)⟩ ⟨(Nat.le_of_ble_eq_true rfl), (Nat.le_of_ble_eq_true rfl)⟩ dX2_dateOf_53 (fun _ _ z => False.elim z) (fun v9 ws9 h16 => ?_)
  obtain ⟨r18, K19, hK19, rfl, hw9⟩ := h16
  subst ws9
  dsimp only [mPush]
  exact r_iret hX hE dX2_dateOf_56 (Nat.le_of_ble_eq_true rfl) (Nat.le_of_ble_eq_true rfl) ⟨_, K19, (hK19.trans rfl), rfl, rfl⟩
theorem dX2_moveDate_0 : decode cX2_moveDate 0 = .ok (.aload_n 0, 1) := by decide +kernel
theorem dX2_moveDate_1 : decode cX2_moveDate 1 = .ok (.getfield 20, 3) := by decide +kernel
theorem dX2_moveDate_4 : decode cX2_moveDate 4 = .ok (.iload_n 1, 1) := by decide +kernel
theorem dX2_moveDate_5 : decode cX2_moveDate 5 = .ok (.invokestatic 84, 3) := by decide +kernel
theorem dX2_moveDate_8 : decode cX2_moveDate 8 = .ok (.astore 5, 2) := by decide +kernel
theorem dX2_moveDate_10 : decode cX2_moveDate 10 = .ok (.iload_n 2, 1) := by decide +kernel
theorem dX2_moveDate_11 : decode cX2_moveDate 11 = .ok (.iconst 0, 1) := by decide +kernel
theorem dX2_moveDate_12 : decode cX2_moveDate 12 = .ok (.bipush 7, 2) := by decide +kernel
theorem dX2_moveDate_14 : decode cX2_moveDate 14 = .ok (.invokestatic 40, 3) := by decide +kernel
theorem dX2_moveDate_17 : decode cX2_moveDate 17 = .ok (.iload_n 3, 1) := by decide +kernel
theorem dX2_moveDate_18 : decode cX2_moveDate 18 = .ok (.iload 4, 2) := by decide +kernel
theorem dX2_moveDate_20 : decode cX2_moveDate 20 = .ok (.invokestatic 80, 3) := by decide +kernel
theorem dX2_moveDate_23 : decode cX2_moveDate 23 = .ok (.lstore 6, 2) := by decide +kernel
theorem dX2_moveDate_25 : decode cX2_moveDate 25 = .ok (.iload_n 2, 1) := by decide +kernel
theorem dX2_moveDate_26 : decode cX2_moveDate 26 = .ok (.ifCond .ne 22, 3) := by decide +kernel
theorem dX2_moveDate_29 : decode cX2_moveDate 29 = .ok (.aload_n 0, 1) := by decide +kernel
theorem dX2_moveDate_30 : decode cX2_moveDate 30 = .ok (.aload 5, 2) := by decide +kernel
theorem dX2_moveDate_32 : decode cX2_moveDate 32 = .ok (.aload 5, 2) := by decide +kernel
theorem dX2_moveDate_34 : decode cX2_moveDate 34 = .ok (.invokevirtual 136, 3) := by decide +kernel
theorem dX2_moveDate_37 : decode cX2_moveDate 37 = .ok (.lload 6, 2) := by decide +kernel
theorem dX2_moveDate_39 : decode cX2_moveDate 39 = .ok (.ldc2_w 140, 3) := by decide +kernel
theorem dX2_moveDate_42 : decode cX2_moveDate 42 = .ok (.lmul, 1) := by decide +kernel
theorem dX2_moveDate_43 : decode cX2_moveDate 43 = .ok (.ladd, 1) := by decide +kernel
theorem dX2_moveDate_44 : decode cX2_moveDate 44 = .ok (.invokevirtual 142, 3) := by decide +kernel
theorem dX2_moveDate_47 : decode cX2_moveDate 47 = .ok (.ireturn, 1) := by decide +kernel
theorem dX2_moveDate_48 : decode cX2_moveDate 48 = .ok (.iload_n 2, 1) := by decide +kernel
theorem dX2_moveDate_49 : decode cX2_moveDate 49 = .ok (.iconst 1, 1) := by decide +kernel
theorem dX2_moveDate_50 : decode cX2_moveDate 50 = .ok (.if_icmp .ne 18, 3) := by decide +kernel
theorem dX2_moveDate_53 : decode cX2_moveDate 53 = .ok (.aload_n 0, 1) := by decide +kernel
theorem dX2_moveDate_54 : decode cX2_moveDate 54 = .ok (.aload 5, 2) := by decide +kernel
theorem dX2_moveDate_56 : decode cX2_moveDate 56 = .ok (.aload 5, 2) := by decide +kernel
theorem dX2_moveDate_58 : decode cX2_moveDate 58 = .ok (.invokevirtual 136, 3) := by decide +kernel
theorem dX2_moveDate_61 : decode cX2_moveDate 61 = .ok (.lload 6, 2) := by decide +kernel
theorem dX2_moveDate_63 : decode cX2_moveDate 63 = .ok (.ladd, 1) := by decide +kernel
theorem dX2_moveDate_64 : decode cX2_moveDate 64 = .ok (.invokevirtual 142, 3) := by decide +kernel
theorem dX2_moveDate_67 : decode cX2_moveDate 67 = .ok (.ireturn, 1) := by decide +kernel
theorem dX2_moveDate_68 : decode cX2_moveDate 68 = .ok (.aload_n 0, 1) := by decide +kernel
theorem dX2_moveDate_69 : decode cX2_moveDate 69 = .ok (.aload 5, 2) := by decide +kernel
theorem dX2_moveDate_71 : decode cX2_moveDate 71 = .ok (.aload 5, 2) := by decide +kernel
theorem dX2_moveDate_73 : decode cX2_moveDate 73 = .ok (.getfield 146, 3) := by decide +kernel
theorem dX2_moveDate_76 : decode cX2_moveDate 76 = .ok (.aload 5, 2) := by decide +kernel
theorem dX2_moveDate_78 : decode cX2_moveDate 78 = .ok (.iload_n 2, 1) := by decide +kernel
theorem dX2_moveDate_79 : decode cX2_moveDate 79 = .ok (.lload 6, 2) := by decide +kernel
theorem dX2_moveDate_81 : decode cX2_moveDate 81 = .ok (.invokestatic 150, 3) := by decide +kernel
theorem dX2_moveDate_84 : decode cX2_moveDate 84 = .ok (.ladd, 1) := by decide +kernel
theorem dX2_moveDate_85 : decode cX2_moveDate 85 = .ok (.aload 5, 2) := by decide +kernel
theorem dX2_moveDate_87 : decode cX2_moveDate 87 = .ok (.iload_n 2, 1) := by decide +kernel
theorem dX2_moveDate_88 : decode cX2_moveDate 88 = .ok (.lload 6, 2) := by decide +kernel
theorem dX2_moveDate_90 : decode cX2_moveDate 90 = .ok (.invokestatic 154, 3) := by decide +kernel
theorem dX2_moveDate_93 : decode cX2_moveDate 93 = .ok (.aload 5, 2) := by decide +kernel
theorem dX2_moveDate_95 : decode cX2_moveDate 95 = .ok (.getfield 158, 3) := by decide +kernel
theorem dX2_moveDate_98 : decode cX2_moveDate 98 = .ok (.invokevirtual 132, 3) := by decide +kernel
theorem dX2_moveDate_101 : decode cX2_moveDate 101 = .ok (.ireturn, 1) := by decide +kernel
set_option maxHeartbeats 4000000 in
set_option maxRecDepth 20000 in
theorem c_X2_moveDate (ad : Nat → Nat) (cs : ClassId × ClassId × ClassId) (K : mK) (rest : va_W) (p0 : Int32) (p1 : Int32) (p2 : Int32) (p3 : Int32) : mCt (mTy cs) yX2_moveDate cX2_moveDate 8 (some .int) ⟨7, 2, 12, 120⟩ [.ref (ad 0), .int p0, .int p1, .int p2, .int p3] (mWd ad cs K rest) (mWi ad cs K rest) (mTh [xI, xA] (mWd ad cs K rest)) := by
  refine mCt.of (by decide +kernel) (Nat.le_of_ble_eq_true rfl) (fun X hX hE => ?_)
  have hX : mOK X RX2 cX2_moveDate 8 ⟨7, 2, 12, 120⟩ [] (mTy cs) := hX
  refine r_aload_n hX dX2_moveDate_0 rfl rfl ?_
  refine r_get hX kf_X2_20 0 rfl rfl dX2_moveDate_1 ?_
  refine r_iload_n hX dX2_moveDate_4 rfl rfl ?_
  refine r_callS hX (c_X2_at ad cs _ 3 _ 4 0 rfl (by decide) _) ks_X2_84 rfl rfl (Nat.le_of_ble_eq_true rfl) ⟨(Nat.le_of_ble_eq_true rfl), (Nat.le_of_ble_eq_true rfl)⟩ ⟨(Nat.le_of_ble_eq_true rfl), (Nat.le_of_ble_eq_true rfl)⟩ dX2_moveDate_5 (fun E ws9 z => r_out hX hE (Nat.le_of_ble_eq_true rfl) (Nat.le_of_ble_eq_true rfl) (⟨by rw [z.1]; exact List.mem_cons_self, z.2.1⟩)) (fun v9 ws9 h1 => ?_)
  obtain ⟨i3, hhi3, rfl, rfl, hw9⟩ := h1
  subst ws9
  dsimp only [mPush]
  refine r_astore hX dX2_moveDate_8 (by decide) rfl ?_
  refine r_iload_n hX dX2_moveDate_10 rfl rfl ?_
  refine r_iconst (v := 0) hX dX2_moveDate_11 (by decide) ?_
  refine r_bipush (v := 7) hX dX2_moveDate_12 (by decide) ?_
  refine r_callS hX (c_X2_requireWithin _ _ _ _ _) ks_X2_40 rfl rfl (Nat.le_of_ble_eq_true rfl) ⟨(Nat.le_of_ble_eq_true rfl), (Nat.le_of_ble_eq_true rfl)⟩ ⟨(Nat.le_of_ble_eq_true rfl), (Nat.le_of_ble_eq_true rfl)⟩ dX2_moveDate_14 (fun E ws9 z => r_out hX hE (Nat.le_of_ble_eq_true rfl) (Nat.le_of_ble_eq_true rfl) (⟨by rw [z.1]; exact List.mem_cons_of_mem _ List.mem_cons_self, z.2.1⟩)) (fun v9 ws9 h4 => ?_)
  obtain ⟨a6, rfl, hw9⟩ := h4
  subst ws9
  dsimp only [mPush]
  refine r_iload_n hX dX2_moveDate_17 rfl rfl ?_
  refine r_iload hX dX2_moveDate_18 rfl ?_
  refine r_callS hX (c_X2_signed _ _ _ _) ks_X2_80 rfl rfl (Nat.le_of_ble_eq_true rfl) ⟨(Nat.le_of_ble_eq_true rfl), (Nat.le_of_ble_eq_true rfl)⟩ ⟨(Nat.le_of_ble_eq_true rfl), (Nat.le_of_ble_eq_true rfl)⟩ dX2_moveDate_20 (fun _ _ z => False.elim z) (fun v9 ws9 h7 => ?_)
  obtain ⟨r9, rfl, hw9⟩ := h7
  subst ws9
  dsimp only [mPush]
  refine r_lstore hX dX2_moveDate_23 (by decide) rfl ?_
  refine r_iload_n hX dX2_moveDate_25 rfl rfl ?_
  refine r_if_ne (tgt := 48) hX dX2_moveDate_26 (by decide) (fun c10 => ?_) (fun c10 => ?_)
  · refine r_iload_n hX dX2_moveDate_48 rfl rfl ?_
    refine r_iconst (v := 1) hX dX2_moveDate_49 (by decide) ?_
    refine r_icmp_ne (tgt := 68) hX dX2_moveDate_50 (by decide) (fun c11 => ?_) (fun c11 => ?_)
    · refine r_aload_n hX dX2_moveDate_68 rfl rfl ?_
      refine r_aload hX dX2_moveDate_69 rfl ?_
      refine r_aload hX dX2_moveDate_71 rfl ?_
      refine r_getN hX kg_X2_146 (i3 + 5) (mWd_loc (d := i3) (by omega)) rfl dX2_moveDate_73 ?_
      refine r_aload hX dX2_moveDate_76 rfl ?_
      refine r_iload_n hX dX2_moveDate_78 rfl rfl ?_
      refine r_lload hX dX2_moveDate_79 rfl ?_
      refine r_callS hX (c_X2_secondsOn _ _ (i3 + 5) _ _ _ _ (mWd_loc (d := i3) (by omega)) _ _) ks_X2_150 rfl rfl (Nat.le_of_ble_eq_true rfl) ⟨(Nat.le_of_ble_eq_true rfl), (Nat.le_of_ble_eq_true rfl)⟩ ⟨(Nat.le_of_ble_eq_true rfl), (Nat.le_of_ble_eq_true rfl)⟩ dX2_moveDate_81 (fun _ _ z => False.elim z) (fun v9 ws9 h12 => ?_)
      obtain ⟨r14, rfl, hw9⟩ := h12
      subst ws9
      dsimp only [mPush]
      refine r_ladd hX dX2_moveDate_84 ?_
      refine r_aload hX dX2_moveDate_85 rfl ?_
      refine r_iload_n hX dX2_moveDate_87 rfl rfl ?_
      refine r_lload hX dX2_moveDate_88 rfl ?_
      refine r_callS hX (c_X2_nanoOn _ _ (i3 + 5) _ _ _ _ (mWd_loc (d := i3) (by omega)) _ _) ks_X2_154 rfl rfl (Nat.le_of_ble_eq_true rfl) ⟨(Nat.le_of_ble_eq_true rfl), (Nat.le_of_ble_eq_true rfl)⟩ ⟨(Nat.le_of_ble_eq_true rfl), (Nat.le_of_ble_eq_true rfl)⟩ dX2_moveDate_90 (fun _ _ z => False.elim z) (fun v9 ws9 h15 => ?_)
      obtain ⟨r17, rfl, hw9⟩ := h15
      subst ws9
      dsimp only [mPush]
      refine r_aload hX dX2_moveDate_93 rfl ?_
      refine r_getN hX kg_X2_158 (i3 + 5) (mWd_loc (d := i3) (by omega)) rfl dX2_moveDate_95 ?_
      refine r_callV hX (c_X2_putLocal _ _ _ _ i3 (by omega) _ _ _) kv_X2_132 0 rfl rfl rfl rfl (Nat.le_of_ble_eq_true rfl) ⟨(Nat.le_of_ble_eq_true rfl), (Nat.le_of_ble_eq_true rfl)⟩ ⟨(Nat.le_of_ble_eq_true rfl), (Nat.le_of_ble_eq_true rfl)⟩ dX2_moveDate_98 (fun _ _ z => False.elim z) (fun v9 ws9 h18 => ?_)
      obtain ⟨r20, K21, hK21, rfl, hw9⟩ := h18
      subst ws9
      dsimp only [mPush]
      exact r_iret hX hE dX2_moveDate_101 (Nat.le_of_ble_eq_true rfl) (Nat.le_of_ble_eq_true rfl) ⟨_, K21, (hK21.trans rfl), rfl, rfl⟩
    · refine r_aload_n hX dX2_moveDate_53 rfl rfl ?_
      refine r_aload hX dX2_moveDate_54 rfl ?_
      refine r_aload hX dX2_moveDate_56 rfl ?_
      refine r_callV hX (c_X1_months _ _ (i3 + 5) _ _ _ _ (mWd_loc (d := i3) (by omega))) kv_X2_136 (i3 + 5) (mWd_loc (d := i3) (by omega)) rfl rfl rfl (Nat.le_of_ble_eq_true rfl) ⟨(Nat.le_of_ble_eq_true rfl), (Nat.le_of_ble_eq_true rfl)⟩ ⟨(Nat.le_of_ble_eq_true rfl), (Nat.le_of_ble_eq_true rfl)⟩ dX2_moveDate_58 (fun _ _ z => False.elim z) (fun v9 ws9 h22 => ?_)
      obtain ⟨r24, rfl, hw9⟩ := h22
      subst ws9
      dsimp only [mPush]
      refine r_lload hX dX2_moveDate_61 rfl ?_
      refine r_ladd hX dX2_moveDate_63 ?_
      refine r_callV hX (c_X2_putMonths _ _ _ _ i3 (by omega) _) kv_X2_142 0 rfl rfl rfl rfl (Nat.le_of_ble_eq_true rfl) ⟨(Nat.le_of_ble_eq_true rfl), (Nat.le_of_ble_eq_true rfl)⟩ ⟨(Nat.le_of_ble_eq_true rfl), (Nat.le_of_ble_eq_true rfl)⟩ dX2_moveDate_64 (fun _ _ z => False.elim z) (fun v9 ws9 h25 => ?_)
      obtain ⟨r27, K28, hK28, rfl, hw9⟩ := h25
      subst ws9
      dsimp only [mPush]
      exact r_iret hX hE dX2_moveDate_67 (Nat.le_of_ble_eq_true rfl) (Nat.le_of_ble_eq_true rfl) ⟨_, K28, (hK28.trans rfl), rfl, rfl⟩
  · refine r_aload_n hX dX2_moveDate_29 rfl rfl ?_
    refine r_aload hX dX2_moveDate_30 rfl ?_
    refine r_aload hX dX2_moveDate_32 rfl ?_
    refine r_callV hX (c_X1_months _ _ (i3 + 5) _ _ _ _ (mWd_loc (d := i3) (by omega))) kv_X2_136 (i3 + 5) (mWd_loc (d := i3) (by omega)) rfl rfl rfl (Nat.le_of_ble_eq_true rfl) ⟨(Nat.le_of_ble_eq_true rfl), (Nat.le_of_ble_eq_true rfl)⟩ ⟨(Nat.le_of_ble_eq_true rfl), (Nat.le_of_ble_eq_true rfl)⟩ dX2_moveDate_34 (fun _ _ z => False.elim z) (fun v9 ws9 h29 => ?_)
    obtain ⟨r31, rfl, hw9⟩ := h29
    subst ws9
    dsimp only [mPush]
    refine r_lload hX dX2_moveDate_37 rfl ?_
    refine r_ldc2 hX kc_X2_140 dX2_moveDate_39 ?_
    refine r_lmul hX dX2_moveDate_42 ?_
    refine r_ladd hX dX2_moveDate_43 ?_
    refine r_callV hX (c_X2_putMonths _ _ _ _ i3 (by omega) _) kv_X2_142 0 rfl rfl rfl rfl (Nat.le_of_ble_eq_true rfl) ⟨(Nat.le_of_ble_eq_true rfl), (Nat.le_of_ble_eq_true rfl)⟩ ⟨(Nat.le_of_ble_eq_true rfl), (Nat.le_of_ble_eq_true rfl)⟩ dX2_moveDate_44 (fun _ _ z => False.elim z) (fun v9 ws9 h32 => ?_)
    obtain ⟨r34, K35, hK35, rfl, hw9⟩ := h32
    subst ws9
    dsimp only [mPush]
    exact r_iret hX hE dX2_moveDate_47 (Nat.le_of_ble_eq_true rfl) (Nat.le_of_ble_eq_true rfl) ⟨_, K35, (hK35.trans rfl), rfl, rfl⟩
theorem dX2_set_0 : decode cX2_set 0 = .ok (.aload_n 0, 1) := by decide +kernel
theorem dX2_set_1 : decode cX2_set 1 = .ok (.getfield 20, 3) := by decide +kernel
theorem dX2_set_4 : decode cX2_set 4 = .ok (.iload_n 1, 1) := by decide +kernel
theorem dX2_set_5 : decode cX2_set 5 = .ok (.invokestatic 84, 3) := by decide +kernel
theorem dX2_set_8 : decode cX2_set 8 = .ok (.astore 4, 2) := by decide +kernel
theorem dX2_set_10 : decode cX2_set 10 = .ok (.iload_n 2, 1) := by decide +kernel
theorem dX2_set_11 : decode cX2_set 11 = .ok (.iconst 0, 1) := by decide +kernel
theorem dX2_set_12 : decode cX2_set 12 = .ok (.bipush 7, 2) := by decide +kernel
theorem dX2_set_14 : decode cX2_set 14 = .ok (.invokestatic 40, 3) := by decide +kernel
theorem dX2_set_17 : decode cX2_set 17 = .ok (.iload_n 2, 1) := by decide +kernel
theorem dX2_set_18 : decode cX2_set 18 = .ok (.iconst 3, 1) := by decide +kernel
theorem dX2_set_19 : decode cX2_set 19 = .ok (.if_icmp .gt 14, 3) := by decide +kernel
theorem dX2_set_22 : decode cX2_set 22 = .ok (.aload_n 0, 1) := by decide +kernel
theorem dX2_set_23 : decode cX2_set 23 = .ok (.aload 4, 2) := by decide +kernel
theorem dX2_set_25 : decode cX2_set 25 = .ok (.iload_n 2, 1) := by decide +kernel
theorem dX2_set_26 : decode cX2_set 26 = .ok (.iload_n 3, 1) := by decide +kernel
theorem dX2_set_27 : decode cX2_set 27 = .ok (.invokevirtual 162, 3) := by decide +kernel
theorem dX2_set_30 : decode cX2_set 30 = .ok (.goto 11, 3) := by decide +kernel
theorem dX2_set_33 : decode cX2_set 33 = .ok (.aload_n 0, 1) := by decide +kernel
theorem dX2_set_34 : decode cX2_set 34 = .ok (.aload 4, 2) := by decide +kernel
theorem dX2_set_36 : decode cX2_set 36 = .ok (.iload_n 2, 1) := by decide +kernel
theorem dX2_set_37 : decode cX2_set 37 = .ok (.iload_n 3, 1) := by decide +kernel
theorem dX2_set_38 : decode cX2_set 38 = .ok (.invokevirtual 166, 3) := by decide +kernel
theorem dX2_set_41 : decode cX2_set 41 = .ok (.ireturn, 1) := by decide +kernel
set_option maxHeartbeats 4000000 in
set_option maxRecDepth 20000 in
theorem c_X2_set (ad : Nat → Nat) (cs : ClassId × ClassId × ClassId) (K : mK) (rest : va_W) (p0 : Int32) (p1 : Int32) (p2 : Int32) : mCt (mTy cs) yX2_set cX2_set 5 (some .int) ⟨7, 2, 12, 145⟩ [.ref (ad 0), .int p0, .int p1, .int p2] (mWd ad cs K rest) (mWi ad cs K rest) (mTh [xI, xA] (mWd ad cs K rest)) := by
  refine mCt.of (by decide +kernel) (Nat.le_of_ble_eq_true rfl) (fun X hX hE => ?_)
  have hX : mOK X RX2 cX2_set 5 ⟨7, 2, 12, 145⟩ [] (mTy cs) := hX
  refine r_aload_n hX dX2_set_0 rfl rfl ?_
  refine r_get hX kf_X2_20 0 rfl rfl dX2_set_1 ?_
  refine r_iload_n hX dX2_set_4 rfl rfl ?_
  refine r_callS hX (c_X2_at ad cs _ 3 _ 4 0 rfl (by decide) _) ks_X2_84 rfl rfl (Nat.le_of_ble_eq_true rfl) ⟨(Nat.le_of_ble_eq_true rfl), (Nat.le_of_ble_eq_true rfl)⟩ ⟨(Nat.le_of_ble_eq_true rfl), (Nat.le_of_ble_eq_true rfl)⟩ dX2_set_5 (fun E ws9 z => r_out hX hE (Nat.le_of_ble_eq_true rfl) (Nat.le_of_ble_eq_true rfl) (⟨by rw [z.1]; exact List.mem_cons_self, z.2.1⟩)) (fun v9 ws9 h1 => ?_)
  obtain ⟨i3, hhi3, rfl, rfl, hw9⟩ := h1
  subst ws9
  dsimp only [mPush]
  refine r_astore hX dX2_set_8 (by decide) rfl ?_
  refine r_iload_n hX dX2_set_10 rfl rfl ?_
  refine r_iconst (v := 0) hX dX2_set_11 (by decide) ?_
  refine r_bipush (v := 7) hX dX2_set_12 (by decide) ?_
  refine r_callS hX (c_X2_requireWithin _ _ _ _ _) ks_X2_40 rfl rfl (Nat.le_of_ble_eq_true rfl) ⟨(Nat.le_of_ble_eq_true rfl), (Nat.le_of_ble_eq_true rfl)⟩ ⟨(Nat.le_of_ble_eq_true rfl), (Nat.le_of_ble_eq_true rfl)⟩ dX2_set_14 (fun E ws9 z => r_out hX hE (Nat.le_of_ble_eq_true rfl) (Nat.le_of_ble_eq_true rfl) (⟨by rw [z.1]; exact List.mem_cons_of_mem _ List.mem_cons_self, z.2.1⟩)) (fun v9 ws9 h4 => ?_)
  obtain ⟨a6, rfl, hw9⟩ := h4
  subst ws9
  dsimp only [mPush]
  refine r_iload_n hX dX2_set_17 rfl rfl ?_
  refine r_iconst (v := 3) hX dX2_set_18 (by decide) ?_
  refine r_icmp_gt (tgt := 33) hX dX2_set_19 (by decide) (fun c7 => ?_) (fun c7 => ?_)
  · refine r_aload_n hX dX2_set_33 rfl rfl ?_
    refine r_aload hX dX2_set_34 rfl ?_
    refine r_iload_n hX dX2_set_36 rfl rfl ?_
    refine r_iload_n hX dX2_set_37 rfl rfl ?_
    refine r_callV hX (c_X2_setOfTime _ _ _ _ i3 (by omega) _ _) kv_X2_166 0 rfl rfl rfl rfl (Nat.le_of_ble_eq_true rfl) ⟨(Nat.le_of_ble_eq_true rfl), (Nat.le_of_ble_eq_true rfl)⟩ ⟨(Nat.le_of_ble_eq_true rfl), (Nat.le_of_ble_eq_true rfl)⟩ dX2_set_38 (fun _ _ z => False.elim z) (fun v9 ws9 h8 => ?_)
    obtain ⟨r10, K11, hK11, rfl, hw9⟩ := h8
    subst ws9
    dsimp only [mPush]
    exact r_iret hX hE dX2_set_41 (Nat.le_of_ble_eq_true rfl) (Nat.le_of_ble_eq_true rfl) ⟨_, K11, (hK11.trans rfl), rfl, rfl⟩
  · refine r_aload_n hX dX2_set_22 rfl rfl ?_
    refine r_aload hX dX2_set_23 rfl ?_
    refine r_iload_n hX dX2_set_25 rfl rfl ?_
    refine r_iload_n hX dX2_set_26 rfl rfl ?_
    refine r_callV hX (c_X2_setOfDay _ _ _ _ i3 (by omega) _ _) kv_X2_162 0 rfl rfl rfl rfl (Nat.le_of_ble_eq_true rfl) ⟨(Nat.le_of_ble_eq_true rfl), (Nat.le_of_ble_eq_true rfl)⟩ ⟨(Nat.le_of_ble_eq_true rfl), (Nat.le_of_ble_eq_true rfl)⟩ dX2_set_27 (fun _ _ z => False.elim z) (fun v9 ws9 h12 => ?_)
    obtain ⟨r14, K15, hK15, rfl, hw9⟩ := h12
    subst ws9
    dsimp only [mPush]
    refine r_goto (tgt := 41) hX dX2_set_30 (by decide) ?_
    exact r_iret hX hE dX2_set_41 (Nat.le_of_ble_eq_true rfl) (Nat.le_of_ble_eq_true rfl) ⟨_, K15, (hK15.trans rfl), rfl, rfl⟩
theorem dX2_anew_0 : decode cX2_anew 0 = .ok (.aload_n 0, 1) := by decide +kernel
theorem dX2_anew_1 : decode cX2_anew 1 = .ok (.getfield 20, 3) := by decide +kernel
theorem dX2_anew_4 : decode cX2_anew 4 = .ok (.iload_n 1, 1) := by decide +kernel
theorem dX2_anew_5 : decode cX2_anew 5 = .ok (.invokestatic 84, 3) := by decide +kernel
theorem dX2_anew_8 : decode cX2_anew 8 = .ok (.astore 4, 2) := by decide +kernel
theorem dX2_anew_10 : decode cX2_anew 10 = .ok (.aload_n 0, 1) := by decide +kernel
theorem dX2_anew_11 : decode cX2_anew 11 = .ok (.iload_n 2, 1) := by decide +kernel
theorem dX2_anew_12 : decode cX2_anew 12 = .ok (.invokevirtual 64, 3) := by decide +kernel
theorem dX2_anew_15 : decode cX2_anew 15 = .ok (.istore 5, 2) := by decide +kernel
theorem dX2_anew_17 : decode cX2_anew 17 = .ok (.iload_n 3, 1) := by decide +kernel
theorem dX2_anew_18 : decode cX2_anew 18 = .ok (.ifCond .eq 11, 3) := by decide +kernel
theorem dX2_anew_21 : decode cX2_anew 21 = .ok (.aload 4, 2) := by decide +kernel
theorem dX2_anew_23 : decode cX2_anew 23 = .ok (.getfield 146, 3) := by decide +kernel
theorem dX2_anew_26 : decode cX2_anew 26 = .ok (.goto 12, 3) := by decide +kernel
theorem dX2_anew_29 : decode cX2_anew 29 = .ok (.aload 4, 2) := by decide +kernel
theorem dX2_anew_31 : decode cX2_anew 31 = .ok (.invokevirtual 169, 3) := by decide +kernel
theorem dX2_anew_34 : decode cX2_anew 34 = .ok (.iload 5, 2) := by decide +kernel
theorem dX2_anew_36 : decode cX2_anew 36 = .ok (.i2l, 1) := by decide +kernel
theorem dX2_anew_37 : decode cX2_anew 37 = .ok (.ladd, 1) := by decide +kernel
theorem dX2_anew_38 : decode cX2_anew 38 = .ok (.lstore 6, 2) := by decide +kernel
theorem dX2_anew_40 : decode cX2_anew 40 = .ok (.aload_n 0, 1) := by decide +kernel
theorem dX2_anew_41 : decode cX2_anew 41 = .ok (.aload 4, 2) := by decide +kernel
theorem dX2_anew_43 : decode cX2_anew 43 = .ok (.lload 6, 2) := by decide +kernel
theorem dX2_anew_45 : decode cX2_anew 45 = .ok (.aload 4, 2) := by decide +kernel
theorem dX2_anew_47 : decode cX2_anew 47 = .ok (.getfield 172, 3) := by decide +kernel
theorem dX2_anew_50 : decode cX2_anew 50 = .ok (.iload 5, 2) := by decide +kernel
theorem dX2_anew_52 : decode cX2_anew 52 = .ok (.invokevirtual 132, 3) := by decide +kernel
theorem dX2_anew_55 : decode cX2_anew 55 = .ok (.ireturn, 1) := by decide +kernel
set_option maxHeartbeats 4000000 in
set_option maxRecDepth 20000 in
theorem c_X2_anew (ad : Nat → Nat) (cs : ClassId × ClassId × ClassId) (K : mK) (rest : va_W) (p0 : Int32) (p1 : Int32) (p2 : Int32) : mCt (mTy cs) yX2_anew cX2_anew 8 (some .int) ⟨8, 2, 12, 124⟩ [.ref (ad 0), .int p0, .int p1, .int p2] (mWd ad cs K rest) (mWi ad cs K rest) (mTh [xI] (mWd ad cs K rest)) := by
  refine mCt.of (by decide +kernel) (Nat.le_of_ble_eq_true rfl) (fun X hX hE => ?_)
  have hX : mOK X RX2 cX2_anew 8 ⟨8, 2, 12, 124⟩ [] (mTy cs) := hX
  refine r_aload_n hX dX2_anew_0 rfl rfl ?_
  refine r_get hX kf_X2_20 0 rfl rfl dX2_anew_1 ?_
  refine r_iload_n hX dX2_anew_4 rfl rfl ?_
  refine r_callS hX (c_X2_at ad cs _ 3 _ 4 0 rfl (by decide) _) ks_X2_84 rfl rfl (Nat.le_of_ble_eq_true rfl) ⟨(Nat.le_of_ble_eq_true rfl), (Nat.le_of_ble_eq_true rfl)⟩ ⟨(Nat.le_of_ble_eq_true rfl), (Nat.le_of_ble_eq_true rfl)⟩ dX2_anew_5 (fun E ws9 z => r_out hX hE (Nat.le_of_ble_eq_true rfl) (Nat.le_of_ble_eq_true rfl) (⟨by rw [z.1]; exact List.mem_cons_self, z.2.1⟩)) (fun v9 ws9 h1 => ?_)
  obtain ⟨i3, hhi3, rfl, rfl, hw9⟩ := h1
  subst ws9
  dsimp only [mPush]
  refine r_astore hX dX2_anew_8 (by decide) rfl ?_
  refine r_aload_n hX dX2_anew_10 rfl rfl ?_
  refine r_iload_n hX dX2_anew_11 rfl rfl ?_
  refine r_callV hX (c_X2_seconds _ _ _ _ _) kv_X2_64 0 rfl rfl rfl rfl (Nat.le_of_ble_eq_true rfl) ⟨(Nat.le_of_ble_eq_true rfl), (Nat.le_of_ble_eq_true rfl)⟩ ⟨(Nat.le_of_ble_eq_true rfl), (Nat.le_of_ble_eq_true rfl)⟩ dX2_anew_12 (fun E ws9 z => r_out hX hE (Nat.le_of_ble_eq_true rfl) (Nat.le_of_ble_eq_true rfl) (⟨by rw [z.1]; exact List.mem_cons_self, z.2.1⟩)) (fun v9 ws9 h4 => ?_)
  obtain ⟨i6, hhi6, rfl, rfl, hw9⟩ := h4
  subst ws9
  dsimp only [mPush]
  refine r_istore hX dX2_anew_15 (by decide) rfl ?_
  refine r_iload_n hX dX2_anew_17 rfl rfl ?_
  refine r_if_eq (tgt := 29) hX dX2_anew_18 (by decide) (fun c7 => ?_) (fun c7 => ?_)
  · refine r_aload hX dX2_anew_29 rfl ?_
    refine r_callV hX (c_X1_momentSecond _ _ (i3 + 5) _ _ _ _ (mWd_loc (d := i3) (by omega))) kv_X2_169 (i3 + 5) (mWd_loc (d := i3) (by omega)) rfl rfl rfl (Nat.le_of_ble_eq_true rfl) ⟨(Nat.le_of_ble_eq_true rfl), (Nat.le_of_ble_eq_true rfl)⟩ ⟨(Nat.le_of_ble_eq_true rfl), (Nat.le_of_ble_eq_true rfl)⟩ dX2_anew_31 (fun _ _ z => False.elim z) (fun v9 ws9 h8 => ?_)
    obtain ⟨r10, rfl, hw9⟩ := h8
    subst ws9
    dsimp only [mPush]
    refine r_iload hX dX2_anew_34 rfl ?_
    refine r_i2l hX dX2_anew_36 ?_
    refine r_ladd hX dX2_anew_37 ?_
    refine r_lstore hX dX2_anew_38 (by decide) rfl ?_
    refine r_aload_n hX dX2_anew_40 rfl rfl ?_
    refine r_aload hX dX2_anew_41 rfl ?_
    refine r_lload hX dX2_anew_43 rfl ?_
    refine r_aload hX dX2_anew_45 rfl ?_
    refine r_getN hX kg_X2_172 (i3 + 5) (mWd_loc (d := i3) (by omega)) rfl dX2_anew_47 ?_
    refine r_iload hX dX2_anew_50 rfl ?_
    refine r_callV hX (c_X2_putLocal _ _ _ _ i3 (by omega) _ _ _) kv_X2_132 0 rfl rfl rfl rfl (Nat.le_of_ble_eq_true rfl) ⟨(Nat.le_of_ble_eq_true rfl), (Nat.le_of_ble_eq_true rfl)⟩ ⟨(Nat.le_of_ble_eq_true rfl), (Nat.le_of_ble_eq_true rfl)⟩ dX2_anew_52 (fun _ _ z => False.elim z) (fun v9 ws9 h11 => ?_)
    obtain ⟨r13, K14, hK14, rfl, hw9⟩ := h11
    subst ws9
    dsimp only [mPush]
    exact r_iret hX hE dX2_anew_55 (Nat.le_of_ble_eq_true rfl) (Nat.le_of_ble_eq_true rfl) ⟨_, K14, (hK14.trans rfl), rfl, rfl⟩
  · refine r_aload hX dX2_anew_21 rfl ?_
    refine r_getN hX kg_X2_146 (i3 + 5) (mWd_loc (d := i3) (by omega)) rfl dX2_anew_23 ?_
    refine r_goto (tgt := 38) hX dX2_anew_26 (by decide) ?_
    refine r_lstore hX dX2_anew_38 (by decide) rfl ?_
    refine r_aload_n hX dX2_anew_40 rfl rfl ?_
    refine r_aload hX dX2_anew_41 rfl ?_
    refine r_lload hX dX2_anew_43 rfl ?_
    refine r_aload hX dX2_anew_45 rfl ?_
    refine r_getN hX kg_X2_172 (i3 + 5) (mWd_loc (d := i3) (by omega)) rfl dX2_anew_47 ?_
    refine r_iload hX dX2_anew_50 rfl ?_
    refine r_callV hX (c_X2_putLocal _ _ _ _ i3 (by omega) _ _ _) kv_X2_132 0 rfl rfl rfl rfl (Nat.le_of_ble_eq_true rfl) ⟨(Nat.le_of_ble_eq_true rfl), (Nat.le_of_ble_eq_true rfl)⟩ ⟨(Nat.le_of_ble_eq_true rfl), (Nat.le_of_ble_eq_true rfl)⟩ dX2_anew_52 (fun _ _ z => False.elim z) (fun v9 ws9 h15 => ?_)
    obtain ⟨r17, K18, hK18, rfl, hw9⟩ := h15
    subst ws9
    dsimp only [mPush]
    exact r_iret hX hE dX2_anew_55 (Nat.le_of_ble_eq_true rfl) (Nat.le_of_ble_eq_true rfl) ⟨_, K18, (hK18.trans rfl), rfl, rfl⟩
theorem dX2_copy_0 : decode cX2_copy 0 = .ok (.aload_n 0, 1) := by decide +kernel
theorem dX2_copy_1 : decode cX2_copy 1 = .ok (.getfield 20, 3) := by decide +kernel
theorem dX2_copy_4 : decode cX2_copy 4 = .ok (.iload_n 1, 1) := by decide +kernel
theorem dX2_copy_5 : decode cX2_copy 5 = .ok (.invokestatic 84, 3) := by decide +kernel
theorem dX2_copy_8 : decode cX2_copy 8 = .ok (.astore_n 3, 1) := by decide +kernel
theorem dX2_copy_9 : decode cX2_copy 9 = .ok (.aload_n 0, 1) := by decide +kernel
theorem dX2_copy_10 : decode cX2_copy 10 = .ok (.getfield 20, 3) := by decide +kernel
theorem dX2_copy_13 : decode cX2_copy 13 = .ok (.iload_n 2, 1) := by decide +kernel
theorem dX2_copy_14 : decode cX2_copy 14 = .ok (.invokestatic 84, 3) := by decide +kernel
theorem dX2_copy_17 : decode cX2_copy 17 = .ok (.astore 4, 2) := by decide +kernel
theorem dX2_copy_19 : decode cX2_copy 19 = .ok (.aload_n 0, 1) := by decide +kernel
theorem dX2_copy_20 : decode cX2_copy 20 = .ok (.aload_n 3, 1) := by decide +kernel
theorem dX2_copy_21 : decode cX2_copy 21 = .ok (.aload 4, 2) := by decide +kernel
theorem dX2_copy_23 : decode cX2_copy 23 = .ok (.getfield 146, 3) := by decide +kernel
theorem dX2_copy_26 : decode cX2_copy 26 = .ok (.aload 4, 2) := by decide +kernel
theorem dX2_copy_28 : decode cX2_copy 28 = .ok (.getfield 172, 3) := by decide +kernel
theorem dX2_copy_31 : decode cX2_copy 31 = .ok (.aload 4, 2) := by decide +kernel
theorem dX2_copy_33 : decode cX2_copy 33 = .ok (.getfield 158, 3) := by decide +kernel
theorem dX2_copy_36 : decode cX2_copy 36 = .ok (.invokevirtual 132, 3) := by decide +kernel
theorem dX2_copy_39 : decode cX2_copy 39 = .ok (.ireturn, 1) := by decide +kernel
set_option maxHeartbeats 4000000 in
set_option maxRecDepth 20000 in
theorem c_X2_copy (ad : Nat → Nat) (cs : ClassId × ClassId × ClassId) (K : mK) (rest : va_W) (p0 : Int32) (p1 : Int32) : mCt (mTy cs) yX2_copy cX2_copy 5 (some .int) ⟨7, 2, 12, 103⟩ [.ref (ad 0), .int p0, .int p1] (mWd ad cs K rest) (mWi ad cs K rest) (mTh [xI] (mWd ad cs K rest)) := by
  refine mCt.of (by decide +kernel) (Nat.le_of_ble_eq_true rfl) (fun X hX hE => ?_)
  have hX : mOK X RX2 cX2_copy 5 ⟨7, 2, 12, 103⟩ [] (mTy cs) := hX
  refine r_aload_n hX dX2_copy_0 rfl rfl ?_
  refine r_get hX kf_X2_20 0 rfl rfl dX2_copy_1 ?_
  refine r_iload_n hX dX2_copy_4 rfl rfl ?_
  refine r_callS hX (c_X2_at ad cs _ 3 _ 4 0 rfl (by decide) _) ks_X2_84 rfl rfl (Nat.le_of_ble_eq_true rfl) ⟨(Nat.le_of_ble_eq_true rfl), (Nat.le_of_ble_eq_true rfl)⟩ ⟨(Nat.le_of_ble_eq_true rfl), (Nat.le_of_ble_eq_true rfl)⟩ dX2_copy_5 (fun E ws9 z => r_out hX hE (Nat.le_of_ble_eq_true rfl) (Nat.le_of_ble_eq_true rfl) (⟨by rw [z.1]; exact List.mem_cons_self, z.2.1⟩)) (fun v9 ws9 h1 => ?_)
  obtain ⟨i3, hhi3, rfl, rfl, hw9⟩ := h1
  subst ws9
  dsimp only [mPush]
  refine r_astore_n hX dX2_copy_8 rfl (by decide) rfl ?_
  refine r_aload_n hX dX2_copy_9 rfl rfl ?_
  refine r_get hX kf_X2_20 0 rfl rfl dX2_copy_10 ?_
  refine r_iload_n hX dX2_copy_13 rfl rfl ?_
  refine r_callS hX (c_X2_at ad cs _ 3 _ 4 0 rfl (by decide) _) ks_X2_84 rfl rfl (Nat.le_of_ble_eq_true rfl) ⟨(Nat.le_of_ble_eq_true rfl), (Nat.le_of_ble_eq_true rfl)⟩ ⟨(Nat.le_of_ble_eq_true rfl), (Nat.le_of_ble_eq_true rfl)⟩ dX2_copy_14 (fun E ws9 z => r_out hX hE (Nat.le_of_ble_eq_true rfl) (Nat.le_of_ble_eq_true rfl) (⟨by rw [z.1]; exact List.mem_cons_self, z.2.1⟩)) (fun v9 ws9 h4 => ?_)
  obtain ⟨i6, hhi6, rfl, rfl, hw9⟩ := h4
  subst ws9
  dsimp only [mPush]
  refine r_astore hX dX2_copy_17 (by decide) rfl ?_
  refine r_aload_n hX dX2_copy_19 rfl rfl ?_
  refine r_aload_n hX dX2_copy_20 rfl rfl ?_
  refine r_aload hX dX2_copy_21 rfl ?_
  refine r_getN hX kg_X2_146 (i6 + 5) (mWd_loc (d := i6) (by omega)) rfl dX2_copy_23 ?_
  refine r_aload hX dX2_copy_26 rfl ?_
  refine r_getN hX kg_X2_172 (i6 + 5) (mWd_loc (d := i6) (by omega)) rfl dX2_copy_28 ?_
  refine r_aload hX dX2_copy_31 rfl ?_
  refine r_getN hX kg_X2_158 (i6 + 5) (mWd_loc (d := i6) (by omega)) rfl dX2_copy_33 ?_
  refine r_callV hX (c_X2_putLocal _ _ _ _ i3 (by omega) _ _ _) kv_X2_132 0 rfl rfl rfl rfl (Nat.le_of_ble_eq_true rfl) ⟨(Nat.le_of_ble_eq_true rfl), (Nat.le_of_ble_eq_true rfl)⟩ ⟨(Nat.le_of_ble_eq_true rfl), (Nat.le_of_ble_eq_true rfl)⟩ dX2_copy_36 (fun _ _ z => False.elim z) (fun v9 ws9 h7 => ?_)
  obtain ⟨r9, K10, hK10, rfl, hw9⟩ := h7
  subst ws9
  dsimp only [mPush]
  exact r_iret hX hE dX2_copy_39 (Nat.le_of_ble_eq_true rfl) (Nat.le_of_ble_eq_true rfl) ⟨_, K10, (hK10.trans rfl), rfl, rfl⟩
theorem dX2_ofDate_0 : decode cX2_ofDate 0 = .ok (.aload_n 0, 1) := by decide +kernel
theorem dX2_ofDate_1 : decode cX2_ofDate 1 = .ok (.getfield 20, 3) := by decide +kernel
theorem dX2_ofDate_4 : decode cX2_ofDate 4 = .ok (.iload_n 1, 1) := by decide +kernel
theorem dX2_ofDate_5 : decode cX2_ofDate 5 = .ok (.invokestatic 84, 3) := by decide +kernel
theorem dX2_ofDate_8 : decode cX2_ofDate 8 = .ok (.astore_n 3, 1) := by decide +kernel
theorem dX2_ofDate_9 : decode cX2_ofDate 9 = .ok (.iload_n 2, 1) := by decide +kernel
theorem dX2_ofDate_10 : decode cX2_ofDate 10 = .ok (.iconst 0, 1) := by decide +kernel
theorem dX2_ofDate_11 : decode cX2_ofDate 11 = .ok (.bipush 12, 2) := by decide +kernel
theorem dX2_ofDate_13 : decode cX2_ofDate 13 = .ok (.invokestatic 40, 3) := by decide +kernel
theorem dX2_ofDate_16 : decode cX2_ofDate 16 = .ok (.aload_n 3, 1) := by decide +kernel
theorem dX2_ofDate_17 : decode cX2_ofDate 17 = .ok (.iload_n 2, 1) := by decide +kernel
theorem dX2_ofDate_18 : decode cX2_ofDate 18 = .ok (.invokestatic 175, 3) := by decide +kernel
theorem dX2_ofDate_21 : decode cX2_ofDate 21 = .ok (.ireturn, 1) := by decide +kernel
set_option maxHeartbeats 4000000 in
set_option maxRecDepth 20000 in
theorem c_X2_ofDate (ad : Nat → Nat) (cs : ClassId × ClassId × ClassId) (K : mK) (rest : va_W) (p0 : Int32) (p1 : Int32) : mCt (mTy cs) yX2_ofDate cX2_ofDate 4 (some .int) ⟨7, 2, 12, 107⟩ [.ref (ad 0), .int p0, .int p1] (mWd ad cs K rest) (mWi ad cs K rest) (mTh [xI, xA] (mWd ad cs K rest)) := by
  refine mCt.of (by decide +kernel) (Nat.le_of_ble_eq_true rfl) (fun X hX hE => ?_)
  have hX : mOK X RX2 cX2_ofDate 4 ⟨7, 2, 12, 107⟩ [] (mTy cs) := hX
  refine r_aload_n hX dX2_ofDate_0 rfl rfl ?_
  refine r_get hX kf_X2_20 0 rfl rfl dX2_ofDate_1 ?_
  refine r_iload_n hX dX2_ofDate_4 rfl rfl ?_
  refine r_callS hX (c_X2_at ad cs _ 3 _ 4 0 rfl (by decide) _) ks_X2_84 rfl rfl (Nat.le_of_ble_eq_true rfl) ⟨(Nat.le_of_ble_eq_true rfl), (Nat.le_of_ble_eq_true rfl)⟩ ⟨(Nat.le_of_ble_eq_true rfl), (Nat.le_of_ble_eq_true rfl)⟩ dX2_ofDate_5 (fun E ws9 z => r_out hX hE (Nat.le_of_ble_eq_true rfl) (Nat.le_of_ble_eq_true rfl) (⟨by rw [z.1]; exact List.mem_cons_self, z.2.1⟩)) (fun v9 ws9 h1 => ?_)
  obtain ⟨i3, hhi3, rfl, rfl, hw9⟩ := h1
  subst ws9
  dsimp only [mPush]
  refine r_astore_n hX dX2_ofDate_8 rfl (by decide) rfl ?_
  refine r_iload_n hX dX2_ofDate_9 rfl rfl ?_
  refine r_iconst (v := 0) hX dX2_ofDate_10 (by decide) ?_
  refine r_bipush (v := 12) hX dX2_ofDate_11 (by decide) ?_
  refine r_callS hX (c_X2_requireWithin _ _ _ _ _) ks_X2_40 rfl rfl (Nat.le_of_ble_eq_true rfl) ⟨(Nat.le_of_ble_eq_true rfl), (Nat.le_of_ble_eq_true rfl)⟩ ⟨(Nat.le_of_ble_eq_true rfl), (Nat.le_of_ble_eq_true rfl)⟩ dX2_ofDate_13 (fun E ws9 z => r_out hX hE (Nat.le_of_ble_eq_true rfl) (Nat.le_of_ble_eq_true rfl) (⟨by rw [z.1]; exact List.mem_cons_of_mem _ List.mem_cons_self, z.2.1⟩)) (fun v9 ws9 h4 => ?_)
  obtain ⟨a6, rfl, hw9⟩ := h4
  subst ws9
  dsimp only [mPush]
  refine r_aload_n hX dX2_ofDate_16 rfl rfl ?_
  refine r_iload_n hX dX2_ofDate_17 rfl rfl ?_
  refine r_callS hX (c_X2_datePart _ _ (i3 + 5) _ _ _ _ (mWd_loc (d := i3) (by omega)) _) ks_X2_175 rfl rfl (Nat.le_of_ble_eq_true rfl) ⟨(Nat.le_of_ble_eq_true rfl), (Nat.le_of_ble_eq_true rfl)⟩ ⟨(Nat.le_of_ble_eq_true rfl), (Nat.le_of_ble_eq_true rfl)⟩ dX2_ofDate_18 (fun _ _ z => False.elim z) (fun v9 ws9 h7 => ?_)
  obtain ⟨r9, rfl, hw9⟩ := h7
  subst ws9
  dsimp only [mPush]
  exact r_iret hX hE dX2_ofDate_21 (Nat.le_of_ble_eq_true rfl) (Nat.le_of_ble_eq_true rfl) ⟨_, K, rfl, rfl, rfl⟩
theorem dX2_orderDate_0 : decode cX2_orderDate 0 = .ok (.aload_n 0, 1) := by decide +kernel
theorem dX2_orderDate_1 : decode cX2_orderDate 1 = .ok (.getfield 20, 3) := by decide +kernel
theorem dX2_orderDate_4 : decode cX2_orderDate 4 = .ok (.iload_n 1, 1) := by decide +kernel
theorem dX2_orderDate_5 : decode cX2_orderDate 5 = .ok (.invokestatic 84, 3) := by decide +kernel
theorem dX2_orderDate_8 : decode cX2_orderDate 8 = .ok (.aload_n 0, 1) := by decide +kernel
theorem dX2_orderDate_9 : decode cX2_orderDate 9 = .ok (.getfield 20, 3) := by decide +kernel
theorem dX2_orderDate_12 : decode cX2_orderDate 12 = .ok (.iload_n 2, 1) := by decide +kernel
theorem dX2_orderDate_13 : decode cX2_orderDate 13 = .ok (.invokestatic 84, 3) := by decide +kernel
theorem dX2_orderDate_16 : decode cX2_orderDate 16 = .ok (.invokevirtual 179, 3) := by decide +kernel
theorem dX2_orderDate_19 : decode cX2_orderDate 19 = .ok (.ireturn, 1) := by decide +kernel
set_option maxHeartbeats 4000000 in
set_option maxRecDepth 20000 in
theorem c_X2_orderDate (ad : Nat → Nat) (cs : ClassId × ClassId × ClassId) (K : mK) (rest : va_W) (p0 : Int32) (p1 : Int32) : mCt (mTy cs) yX2_orderDate cX2_orderDate 3 (some .int) ⟨7, 2, 12, 103⟩ [.ref (ad 0), .int p0, .int p1] (mWd ad cs K rest) (mWi ad cs K rest) (mTh [xI] (mWd ad cs K rest)) := by
  refine mCt.of (by decide +kernel) (Nat.le_of_ble_eq_true rfl) (fun X hX hE => ?_)
  have hX : mOK X RX2 cX2_orderDate 3 ⟨7, 2, 12, 103⟩ [] (mTy cs) := hX
  refine r_aload_n hX dX2_orderDate_0 rfl rfl ?_
  refine r_get hX kf_X2_20 0 rfl rfl dX2_orderDate_1 ?_
  refine r_iload_n hX dX2_orderDate_4 rfl rfl ?_
  refine r_callS hX (c_X2_at ad cs _ 3 _ 4 0 rfl (by decide) _) ks_X2_84 rfl rfl (Nat.le_of_ble_eq_true rfl) ⟨(Nat.le_of_ble_eq_true rfl), (Nat.le_of_ble_eq_true rfl)⟩ ⟨(Nat.le_of_ble_eq_true rfl), (Nat.le_of_ble_eq_true rfl)⟩ dX2_orderDate_5 (fun E ws9 z => r_out hX hE (Nat.le_of_ble_eq_true rfl) (Nat.le_of_ble_eq_true rfl) (⟨by rw [z.1]; exact List.mem_cons_self, z.2.1⟩)) (fun v9 ws9 h1 => ?_)
  obtain ⟨i3, hhi3, rfl, rfl, hw9⟩ := h1
  subst ws9
  dsimp only [mPush]
  refine r_aload_n hX dX2_orderDate_8 rfl rfl ?_
  refine r_get hX kf_X2_20 0 rfl rfl dX2_orderDate_9 ?_
  refine r_iload_n hX dX2_orderDate_12 rfl rfl ?_
  refine r_callS hX (c_X2_at ad cs _ 3 _ 4 0 rfl (by decide) _) ks_X2_84 rfl rfl (Nat.le_of_ble_eq_true rfl) ⟨(Nat.le_of_ble_eq_true rfl), (Nat.le_of_ble_eq_true rfl)⟩ ⟨(Nat.le_of_ble_eq_true rfl), (Nat.le_of_ble_eq_true rfl)⟩ dX2_orderDate_13 (fun E ws9 z => r_out hX hE (Nat.le_of_ble_eq_true rfl) (Nat.le_of_ble_eq_true rfl) (⟨by rw [z.1]; exact List.mem_cons_self, z.2.1⟩)) (fun v9 ws9 h4 => ?_)
  obtain ⟨i6, hhi6, rfl, rfl, hw9⟩ := h4
  subst ws9
  dsimp only [mPush]
  refine r_callV hX (c_X1_orderTo _ _ (i3 + 5) _ _ _ _ (mWd_loc (d := i3) (by omega)) (i6 + 5) _ _ _ _ (mWd_loc (d := i6) (by omega))) kv_X2_179 (i3 + 5) (mWd_loc (d := i3) (by omega)) rfl rfl rfl (Nat.le_of_ble_eq_true rfl) ⟨(Nat.le_of_ble_eq_true rfl), (Nat.le_of_ble_eq_true rfl)⟩ ⟨(Nat.le_of_ble_eq_true rfl), (Nat.le_of_ble_eq_true rfl)⟩ dX2_orderDate_16 (fun _ _ z => False.elim z) (fun v9 ws9 h7 => ?_)
  obtain ⟨r9, rfl, hw9⟩ := h7
  subst ws9
  dsimp only [mPush]
  exact r_iret hX hE dX2_orderDate_19 (Nat.le_of_ble_eq_true rfl) (Nat.le_of_ble_eq_true rfl) ⟨_, K, rfl, rfl, rfl⟩
theorem dX2_isDate_0 : decode cX2_isDate 0 = .ok (.aload_n 0, 1) := by decide +kernel
theorem dX2_isDate_1 : decode cX2_isDate 1 = .ok (.getfield 20, 3) := by decide +kernel
theorem dX2_isDate_4 : decode cX2_isDate 4 = .ok (.iload_n 1, 1) := by decide +kernel
theorem dX2_isDate_5 : decode cX2_isDate 5 = .ok (.invokestatic 84, 3) := by decide +kernel
theorem dX2_isDate_8 : decode cX2_isDate 8 = .ok (.astore 4, 2) := by decide +kernel
theorem dX2_isDate_10 : decode cX2_isDate 10 = .ok (.aload_n 0, 1) := by decide +kernel
theorem dX2_isDate_11 : decode cX2_isDate 11 = .ok (.getfield 20, 3) := by decide +kernel
theorem dX2_isDate_14 : decode cX2_isDate 14 = .ok (.iload_n 2, 1) := by decide +kernel
theorem dX2_isDate_15 : decode cX2_isDate 15 = .ok (.invokestatic 84, 3) := by decide +kernel
theorem dX2_isDate_18 : decode cX2_isDate 18 = .ok (.astore 5, 2) := by decide +kernel
theorem dX2_isDate_20 : decode cX2_isDate 20 = .ok (.iload_n 3, 1) := by decide +kernel
theorem dX2_isDate_21 : decode cX2_isDate 21 = .ok (.iconst 0, 1) := by decide +kernel
theorem dX2_isDate_22 : decode cX2_isDate 22 = .ok (.iconst 3, 1) := by decide +kernel
theorem dX2_isDate_23 : decode cX2_isDate 23 = .ok (.invokestatic 40, 3) := by decide +kernel
theorem dX2_isDate_26 : decode cX2_isDate 26 = .ok (.aload 4, 2) := by decide +kernel
theorem dX2_isDate_28 : decode cX2_isDate 28 = .ok (.aload 5, 2) := by decide +kernel
theorem dX2_isDate_30 : decode cX2_isDate 30 = .ok (.iload_n 3, 1) := by decide +kernel
theorem dX2_isDate_31 : decode cX2_isDate 31 = .ok (.invokestatic 183, 3) := by decide +kernel
theorem dX2_isDate_34 : decode cX2_isDate 34 = .ok (.ireturn, 1) := by decide +kernel
set_option maxHeartbeats 4000000 in
set_option maxRecDepth 20000 in
theorem c_X2_isDate (ad : Nat → Nat) (cs : ClassId × ClassId × ClassId) (K : mK) (rest : va_W) (p0 : Int32) (p1 : Int32) (p2 : Int32) : mCt (mTy cs) yX2_isDate cX2_isDate 6 (some .boolean) ⟨7, 3, 18, 104⟩ [.ref (ad 0), .int p0, .int p1, .int p2] (mWd ad cs K rest) (mWb ad cs K rest) (mTh [xI, xA] (mWd ad cs K rest)) := by
  refine mCt.of (by decide +kernel) (Nat.le_of_ble_eq_true rfl) (fun X hX hE => ?_)
  have hX : mOK X RX2 cX2_isDate 6 ⟨7, 3, 18, 104⟩ [] (mTy cs) := hX
  refine r_aload_n hX dX2_isDate_0 rfl rfl ?_
  refine r_get hX kf_X2_20 0 rfl rfl dX2_isDate_1 ?_
  refine r_iload_n hX dX2_isDate_4 rfl rfl ?_
  refine r_callS hX (c_X2_at ad cs _ 3 _ 4 0 rfl (by decide) _) ks_X2_84 rfl rfl (Nat.le_of_ble_eq_true rfl) ⟨(Nat.le_of_ble_eq_true rfl), (Nat.le_of_ble_eq_true rfl)⟩ ⟨(Nat.le_of_ble_eq_true rfl), (Nat.le_of_ble_eq_true rfl)⟩ dX2_isDate_5 (fun E ws9 z => r_out hX hE (Nat.le_of_ble_eq_true rfl) (Nat.le_of_ble_eq_true rfl) (⟨by rw [z.1]; exact List.mem_cons_self, z.2.1⟩)) (fun v9 ws9 h1 => ?_)
  obtain ⟨i3, hhi3, rfl, rfl, hw9⟩ := h1
  subst ws9
  dsimp only [mPush]
  refine r_astore hX dX2_isDate_8 (by decide) rfl ?_
  refine r_aload_n hX dX2_isDate_10 rfl rfl ?_
  refine r_get hX kf_X2_20 0 rfl rfl dX2_isDate_11 ?_
  refine r_iload_n hX dX2_isDate_14 rfl rfl ?_
  refine r_callS hX (c_X2_at ad cs _ 3 _ 4 0 rfl (by decide) _) ks_X2_84 rfl rfl (Nat.le_of_ble_eq_true rfl) ⟨(Nat.le_of_ble_eq_true rfl), (Nat.le_of_ble_eq_true rfl)⟩ ⟨(Nat.le_of_ble_eq_true rfl), (Nat.le_of_ble_eq_true rfl)⟩ dX2_isDate_15 (fun E ws9 z => r_out hX hE (Nat.le_of_ble_eq_true rfl) (Nat.le_of_ble_eq_true rfl) (⟨by rw [z.1]; exact List.mem_cons_self, z.2.1⟩)) (fun v9 ws9 h4 => ?_)
  obtain ⟨i6, hhi6, rfl, rfl, hw9⟩ := h4
  subst ws9
  dsimp only [mPush]
  refine r_astore hX dX2_isDate_18 (by decide) rfl ?_
  refine r_iload_n hX dX2_isDate_20 rfl rfl ?_
  refine r_iconst (v := 0) hX dX2_isDate_21 (by decide) ?_
  refine r_iconst (v := 3) hX dX2_isDate_22 (by decide) ?_
  refine r_callS hX (c_X2_requireWithin _ _ _ _ _) ks_X2_40 rfl rfl (Nat.le_of_ble_eq_true rfl) ⟨(Nat.le_of_ble_eq_true rfl), (Nat.le_of_ble_eq_true rfl)⟩ ⟨(Nat.le_of_ble_eq_true rfl), (Nat.le_of_ble_eq_true rfl)⟩ dX2_isDate_23 (fun E ws9 z => r_out hX hE (Nat.le_of_ble_eq_true rfl) (Nat.le_of_ble_eq_true rfl) (⟨by rw [z.1]; exact List.mem_cons_of_mem _ List.mem_cons_self, z.2.1⟩)) (fun v9 ws9 h7 => ?_)
  obtain ⟨a9, rfl, hw9⟩ := h7
  subst ws9
  dsimp only [mPush]
  refine r_aload hX dX2_isDate_26 rfl ?_
  refine r_aload hX dX2_isDate_28 rfl ?_
  refine r_iload_n hX dX2_isDate_30 rfl rfl ?_
  refine r_callS hX (c_X2_isSo _ _ (i3 + 5) _ _ _ _ (mWd_loc (d := i3) (by omega)) (i6 + 5) _ _ _ _ (mWd_loc (d := i6) (by omega)) _) ks_X2_183 rfl rfl (Nat.le_of_ble_eq_true rfl) ⟨(Nat.le_of_ble_eq_true rfl), (Nat.le_of_ble_eq_true rfl)⟩ ⟨(Nat.le_of_ble_eq_true rfl), (Nat.le_of_ble_eq_true rfl)⟩ dX2_isDate_31 (fun _ _ z => False.elim z) (fun v9 ws9 h10 => ?_)
  obtain ⟨r12, br12, rfl, hw9⟩ := h10
  subst ws9
  dsimp only [mPush]
  exact r_zret hX hE dX2_isDate_34 (mB_n br12) (Nat.le_of_ble_eq_true rfl) (Nat.le_of_ble_eq_true rfl) ⟨_, K, br12, rfl, rfl, rfl⟩
theorem dX2_clock_0 : decode cX2_clock 0 = .ok (.aload_n 0, 1) := by decide +kernel
theorem dX2_clock_1 : decode cX2_clock 1 = .ok (.getfield 24, 3) := by decide +kernel
theorem dX2_clock_4 : decode cX2_clock 4 = .ok (.iload_n 1, 1) := by decide +kernel
theorem dX2_clock_5 : decode cX2_clock 5 = .ok (.invokestatic 84, 3) := by decide +kernel
theorem dX2_clock_8 : decode cX2_clock 8 = .ok (.astore 5, 2) := by decide +kernel
theorem dX2_clock_10 : decode cX2_clock 10 = .ok (.aload_n 0, 1) := by decide +kernel
theorem dX2_clock_11 : decode cX2_clock 11 = .ok (.iload 4, 2) := by decide +kernel
theorem dX2_clock_13 : decode cX2_clock 13 = .ok (.invokevirtual 64, 3) := by decide +kernel
theorem dX2_clock_16 : decode cX2_clock 16 = .ok (.istore 6, 2) := by decide +kernel
theorem dX2_clock_18 : decode cX2_clock 18 = .ok (.iload_n 2, 1) := by decide +kernel
theorem dX2_clock_19 : decode cX2_clock 19 = .ok (.iconst 0, 1) := by decide +kernel
theorem dX2_clock_20 : decode cX2_clock 20 = .ok (.ldc 114, 2) := by decide +kernel
theorem dX2_clock_22 : decode cX2_clock 22 = .ok (.invokestatic 40, 3) := by decide +kernel
theorem dX2_clock_25 : decode cX2_clock 25 = .ok (.iload_n 3, 1) := by decide +kernel
theorem dX2_clock_26 : decode cX2_clock 26 = .ok (.iconst 0, 1) := by decide +kernel
theorem dX2_clock_27 : decode cX2_clock 27 = .ok (.ldc 115, 2) := by decide +kernel
theorem dX2_clock_29 : decode cX2_clock 29 = .ok (.invokestatic 40, 3) := by decide +kernel
theorem dX2_clock_32 : decode cX2_clock 32 = .ok (.aload_n 0, 1) := by decide +kernel
theorem dX2_clock_33 : decode cX2_clock 33 = .ok (.aload 5, 2) := by decide +kernel
theorem dX2_clock_35 : decode cX2_clock 35 = .ok (.iload_n 2, 1) := by decide +kernel
theorem dX2_clock_36 : decode cX2_clock 36 = .ok (.i2l, 1) := by decide +kernel
theorem dX2_clock_37 : decode cX2_clock 37 = .ok (.iload_n 3, 1) := by decide +kernel
theorem dX2_clock_38 : decode cX2_clock 38 = .ok (.iload 6, 2) := by decide +kernel
theorem dX2_clock_40 : decode cX2_clock 40 = .ok (.invokevirtual 187, 3) := by decide +kernel
theorem dX2_clock_43 : decode cX2_clock 43 = .ok (.ireturn, 1) := by decide +kernel
set_option maxHeartbeats 4000000 in
set_option maxRecDepth 20000 in
theorem c_X2_clock (ad : Nat → Nat) (cs : ClassId × ClassId × ClassId) (K : mK) (rest : va_W) (p0 : Int32) (p1 : Int32) (p2 : Int32) (p3 : Int32) : mCt (mTy cs) yX2_clock cX2_clock 7 (some .int) ⟨8, 4, 24, 124⟩ [.ref (ad 0), .int p0, .int p1, .int p2, .int p3] (mWd ad cs K rest) (mWi ad cs K rest) (mTh [xI, xA] (mWd ad cs K rest)) := by
  refine mCt.of (by decide +kernel) (Nat.le_of_ble_eq_true rfl) (fun X hX hE => ?_)
  have hX : mOK X RX2 cX2_clock 7 ⟨8, 4, 24, 124⟩ [] (mTy cs) := hX
  refine r_aload_n hX dX2_clock_0 rfl rfl ?_
  refine r_get hX kf_X2_24 0 rfl rfl dX2_clock_1 ?_
  refine r_iload_n hX dX2_clock_4 rfl rfl ?_
  refine r_callS hX (c_X2_at ad cs _ 4 _ 3 4 rfl (by decide) _) ks_X2_84 rfl rfl (Nat.le_of_ble_eq_true rfl) ⟨(Nat.le_of_ble_eq_true rfl), (Nat.le_of_ble_eq_true rfl)⟩ ⟨(Nat.le_of_ble_eq_true rfl), (Nat.le_of_ble_eq_true rfl)⟩ dX2_clock_5 (fun E ws9 z => r_out hX hE (Nat.le_of_ble_eq_true rfl) (Nat.le_of_ble_eq_true rfl) (⟨by rw [z.1]; exact List.mem_cons_self, z.2.1⟩)) (fun v9 ws9 h1 => ?_)
  obtain ⟨i3, hhi3, rfl, rfl, hw9⟩ := h1
  subst ws9
  dsimp only [mPush]
  refine r_astore hX dX2_clock_8 (by decide) rfl ?_
  refine r_aload_n hX dX2_clock_10 rfl rfl ?_
  refine r_iload hX dX2_clock_11 rfl ?_
  refine r_callV hX (c_X2_seconds _ _ _ _ _) kv_X2_64 0 rfl rfl rfl rfl (Nat.le_of_ble_eq_true rfl) ⟨(Nat.le_of_ble_eq_true rfl), (Nat.le_of_ble_eq_true rfl)⟩ ⟨(Nat.le_of_ble_eq_true rfl), (Nat.le_of_ble_eq_true rfl)⟩ dX2_clock_13 (fun E ws9 z => r_out hX hE (Nat.le_of_ble_eq_true rfl) (Nat.le_of_ble_eq_true rfl) (⟨by rw [z.1]; exact List.mem_cons_self, z.2.1⟩)) (fun v9 ws9 h4 => ?_)
  obtain ⟨i6, hhi6, rfl, rfl, hw9⟩ := h4
  subst ws9
  dsimp only [mPush]
  refine r_istore hX dX2_clock_16 (by decide) rfl ?_
  refine r_iload_n hX dX2_clock_18 rfl rfl ?_
  refine r_iconst (v := 0) hX dX2_clock_19 (by decide) ?_
  refine r_ldc hX kc_X2_114 dX2_clock_20 ?_
  refine r_callS hX (c_X2_requireWithin _ _ _ _ _) ks_X2_40 rfl rfl (Nat.le_of_ble_eq_true rfl) ⟨(Nat.le_of_ble_eq_true rfl), (Nat.le_of_ble_eq_true rfl)⟩ ⟨(Nat.le_of_ble_eq_true rfl), (Nat.le_of_ble_eq_true rfl)⟩ dX2_clock_22 (fun E ws9 z => r_out hX hE (Nat.le_of_ble_eq_true rfl) (Nat.le_of_ble_eq_true rfl) (⟨by rw [z.1]; exact List.mem_cons_of_mem _ List.mem_cons_self, z.2.1⟩)) (fun v9 ws9 h7 => ?_)
  obtain ⟨a9, rfl, hw9⟩ := h7
  subst ws9
  dsimp only [mPush]
  refine r_iload_n hX dX2_clock_25 rfl rfl ?_
  refine r_iconst (v := 0) hX dX2_clock_26 (by decide) ?_
  refine r_ldc hX kc_X2_115 dX2_clock_27 ?_
  refine r_callS hX (c_X2_requireWithin _ _ _ _ _) ks_X2_40 rfl rfl (Nat.le_of_ble_eq_true rfl) ⟨(Nat.le_of_ble_eq_true rfl), (Nat.le_of_ble_eq_true rfl)⟩ ⟨(Nat.le_of_ble_eq_true rfl), (Nat.le_of_ble_eq_true rfl)⟩ dX2_clock_29 (fun E ws9 z => r_out hX hE (Nat.le_of_ble_eq_true rfl) (Nat.le_of_ble_eq_true rfl) (⟨by rw [z.1]; exact List.mem_cons_of_mem _ List.mem_cons_self, z.2.1⟩)) (fun v9 ws9 h10 => ?_)
  obtain ⟨a12, rfl, hw9⟩ := h10
  subst ws9
  dsimp only [mPush]
  refine r_aload_n hX dX2_clock_32 rfl rfl ?_
  refine r_aload hX dX2_clock_33 rfl ?_
  refine r_iload_n hX dX2_clock_35 rfl rfl ?_
  refine r_i2l hX dX2_clock_36 ?_
  refine r_iload_n hX dX2_clock_37 rfl rfl ?_
  refine r_iload hX dX2_clock_38 rfl ?_
  refine r_callV hX (c_X2_putClock _ _ _ _ (i3 + 4) (by omega) _ _ _) kv_X2_187 0 rfl rfl rfl rfl (Nat.le_of_ble_eq_true rfl) ⟨(Nat.le_of_ble_eq_true rfl), (Nat.le_of_ble_eq_true rfl)⟩ ⟨(Nat.le_of_ble_eq_true rfl), (Nat.le_of_ble_eq_true rfl)⟩ dX2_clock_40 (fun _ _ z => False.elim z) (fun v9 ws9 h13 => ?_)
  obtain ⟨r15, K16, hK16, rfl, hw9⟩ := h13
  subst ws9
  dsimp only [mPush]
  exact r_iret hX hE dX2_clock_43 (Nat.le_of_ble_eq_true rfl) (Nat.le_of_ble_eq_true rfl) ⟨_, K16, (hK16.trans rfl), rfl, rfl⟩
theorem dX2_clockOf_0 : decode cX2_clockOf 0 = .ok (.aload_n 0, 1) := by decide +kernel
theorem dX2_clockOf_1 : decode cX2_clockOf 1 = .ok (.getfield 24, 3) := by decide +kernel
theorem dX2_clockOf_4 : decode cX2_clockOf 4 = .ok (.iload_n 1, 1) := by decide +kernel
theorem dX2_clockOf_5 : decode cX2_clockOf 5 = .ok (.invokestatic 84, 3) := by decide +kernel
theorem dX2_clockOf_8 : decode cX2_clockOf 8 = .ok (.astore_n 3, 1) := by decide +kernel
theorem dX2_clockOf_9 : decode cX2_clockOf 9 = .ok (.aload_n 0, 1) := by decide +kernel
theorem dX2_clockOf_10 : decode cX2_clockOf 10 = .ok (.getfield 20, 3) := by decide +kernel
theorem dX2_clockOf_13 : decode cX2_clockOf 13 = .ok (.iload_n 2, 1) := by decide +kernel
theorem dX2_clockOf_14 : decode cX2_clockOf 14 = .ok (.invokestatic 84, 3) := by decide +kernel
theorem dX2_clockOf_17 : decode cX2_clockOf 17 = .ok (.astore 4, 2) := by decide +kernel
theorem dX2_clockOf_19 : decode cX2_clockOf 19 = .ok (.aload_n 0, 1) := by decide +kernel
theorem dX2_clockOf_20 : decode cX2_clockOf 20 = .ok (.aload_n 3, 1) := by decide +kernel
theorem dX2_clockOf_21 : decode cX2_clockOf 21 = .ok (.aload 4, 2) := by decide +kernel
theorem dX2_clockOf_23 : decode cX2_clockOf 23 = .ok (.getfield 146, 3) := by decide +kernel
theorem dX2_clockOf_26 : decode cX2_clockOf 26 = .ok (.aload 4, 2) := by decide +kernel
theorem dX2_clockOf_28 : decode cX2_clockOf 28 = .ok (.getfield 172, 3) := by decide +kernel
theorem dX2_clockOf_31 : decode cX2_clockOf 31 = .ok (.aload 4, 2) := by decide +kernel
theorem dX2_clockOf_33 : decode cX2_clockOf 33 = .ok (.getfield 158, 3) := by decide +kernel
theorem dX2_clockOf_36 : decode cX2_clockOf 36 = .ok (.invokevirtual 187, 3) := by decide +kernel
theorem dX2_clockOf_39 : decode cX2_clockOf 39 = .ok (.ireturn, 1) := by decide +kernel
set_option maxHeartbeats 4000000 in
set_option maxRecDepth 20000 in
theorem c_X2_clockOf (ad : Nat → Nat) (cs : ClassId × ClassId × ClassId) (K : mK) (rest : va_W) (p0 : Int32) (p1 : Int32) : mCt (mTy cs) yX2_clockOf cX2_clockOf 5 (some .int) ⟨7, 2, 12, 103⟩ [.ref (ad 0), .int p0, .int p1] (mWd ad cs K rest) (mWi ad cs K rest) (mTh [xI] (mWd ad cs K rest)) := by
  refine mCt.of (by decide +kernel) (Nat.le_of_ble_eq_true rfl) (fun X hX hE => ?_)
  have hX : mOK X RX2 cX2_clockOf 5 ⟨7, 2, 12, 103⟩ [] (mTy cs) := hX
  refine r_aload_n hX dX2_clockOf_0 rfl rfl ?_
  refine r_get hX kf_X2_24 0 rfl rfl dX2_clockOf_1 ?_
  refine r_iload_n hX dX2_clockOf_4 rfl rfl ?_
  refine r_callS hX (c_X2_at ad cs _ 4 _ 3 4 rfl (by decide) _) ks_X2_84 rfl rfl (Nat.le_of_ble_eq_true rfl) ⟨(Nat.le_of_ble_eq_true rfl), (Nat.le_of_ble_eq_true rfl)⟩ ⟨(Nat.le_of_ble_eq_true rfl), (Nat.le_of_ble_eq_true rfl)⟩ dX2_clockOf_5 (fun E ws9 z => r_out hX hE (Nat.le_of_ble_eq_true rfl) (Nat.le_of_ble_eq_true rfl) (⟨by rw [z.1]; exact List.mem_cons_self, z.2.1⟩)) (fun v9 ws9 h1 => ?_)
  obtain ⟨i3, hhi3, rfl, rfl, hw9⟩ := h1
  subst ws9
  dsimp only [mPush]
  refine r_astore_n hX dX2_clockOf_8 rfl (by decide) rfl ?_
  refine r_aload_n hX dX2_clockOf_9 rfl rfl ?_
  refine r_get hX kf_X2_20 0 rfl rfl dX2_clockOf_10 ?_
  refine r_iload_n hX dX2_clockOf_13 rfl rfl ?_
  refine r_callS hX (c_X2_at ad cs _ 3 _ 4 0 rfl (by decide) _) ks_X2_84 rfl rfl (Nat.le_of_ble_eq_true rfl) ⟨(Nat.le_of_ble_eq_true rfl), (Nat.le_of_ble_eq_true rfl)⟩ ⟨(Nat.le_of_ble_eq_true rfl), (Nat.le_of_ble_eq_true rfl)⟩ dX2_clockOf_14 (fun E ws9 z => r_out hX hE (Nat.le_of_ble_eq_true rfl) (Nat.le_of_ble_eq_true rfl) (⟨by rw [z.1]; exact List.mem_cons_self, z.2.1⟩)) (fun v9 ws9 h4 => ?_)
  obtain ⟨i6, hhi6, rfl, rfl, hw9⟩ := h4
  subst ws9
  dsimp only [mPush]
  refine r_astore hX dX2_clockOf_17 (by decide) rfl ?_
  refine r_aload_n hX dX2_clockOf_19 rfl rfl ?_
  refine r_aload_n hX dX2_clockOf_20 rfl rfl ?_
  refine r_aload hX dX2_clockOf_21 rfl ?_
  refine r_getN hX kg_X2_146 (i6 + 5) (mWd_loc (d := i6) (by omega)) rfl dX2_clockOf_23 ?_
  refine r_aload hX dX2_clockOf_26 rfl ?_
  refine r_getN hX kg_X2_172 (i6 + 5) (mWd_loc (d := i6) (by omega)) rfl dX2_clockOf_28 ?_
  refine r_aload hX dX2_clockOf_31 rfl ?_
  refine r_getN hX kg_X2_158 (i6 + 5) (mWd_loc (d := i6) (by omega)) rfl dX2_clockOf_33 ?_
  refine r_callV hX (c_X2_putClock _ _ _ _ (i3 + 4) (by omega) _ _ _) kv_X2_187 0 rfl rfl rfl rfl (Nat.le_of_ble_eq_true rfl) ⟨(Nat.le_of_ble_eq_true rfl), (Nat.le_of_ble_eq_true rfl)⟩ ⟨(Nat.le_of_ble_eq_true rfl), (Nat.le_of_ble_eq_true rfl)⟩ dX2_clockOf_36 (fun _ _ z => False.elim z) (fun v9 ws9 h7 => ?_)
  obtain ⟨r9, K10, hK10, rfl, hw9⟩ := h7
  subst ws9
  dsimp only [mPush]
  exact r_iret hX hE dX2_clockOf_39 (Nat.le_of_ble_eq_true rfl) (Nat.le_of_ble_eq_true rfl) ⟨_, K10, (hK10.trans rfl), rfl, rfl⟩
theorem dX2_strike_0 : decode cX2_strike 0 = .ok (.aload_n 0, 1) := by decide +kernel
theorem dX2_strike_1 : decode cX2_strike 1 = .ok (.getfield 20, 3) := by decide +kernel
theorem dX2_strike_4 : decode cX2_strike 4 = .ok (.iload_n 1, 1) := by decide +kernel
theorem dX2_strike_5 : decode cX2_strike 5 = .ok (.invokestatic 84, 3) := by decide +kernel
theorem dX2_strike_8 : decode cX2_strike 8 = .ok (.astore_n 3, 1) := by decide +kernel
theorem dX2_strike_9 : decode cX2_strike 9 = .ok (.aload_n 0, 1) := by decide +kernel
theorem dX2_strike_10 : decode cX2_strike 10 = .ok (.getfield 24, 3) := by decide +kernel
theorem dX2_strike_13 : decode cX2_strike 13 = .ok (.iload_n 2, 1) := by decide +kernel
theorem dX2_strike_14 : decode cX2_strike 14 = .ok (.invokestatic 84, 3) := by decide +kernel
theorem dX2_strike_17 : decode cX2_strike 17 = .ok (.astore 4, 2) := by decide +kernel
theorem dX2_strike_19 : decode cX2_strike 19 = .ok (.aload_n 0, 1) := by decide +kernel
theorem dX2_strike_20 : decode cX2_strike 20 = .ok (.aload_n 3, 1) := by decide +kernel
theorem dX2_strike_21 : decode cX2_strike 21 = .ok (.aload_n 3, 1) := by decide +kernel
theorem dX2_strike_22 : decode cX2_strike 22 = .ok (.invokevirtual 190, 3) := by decide +kernel
theorem dX2_strike_25 : decode cX2_strike 25 = .ok (.aload 4, 2) := by decide +kernel
theorem dX2_strike_27 : decode cX2_strike 27 = .ok (.getfield 146, 3) := by decide +kernel
theorem dX2_strike_30 : decode cX2_strike 30 = .ok (.ladd, 1) := by decide +kernel
theorem dX2_strike_31 : decode cX2_strike 31 = .ok (.aload 4, 2) := by decide +kernel
theorem dX2_strike_33 : decode cX2_strike 33 = .ok (.getfield 172, 3) := by decide +kernel
theorem dX2_strike_36 : decode cX2_strike 36 = .ok (.aload 4, 2) := by decide +kernel
theorem dX2_strike_38 : decode cX2_strike 38 = .ok (.getfield 158, 3) := by decide +kernel
theorem dX2_strike_41 : decode cX2_strike 41 = .ok (.invokevirtual 132, 3) := by decide +kernel
theorem dX2_strike_44 : decode cX2_strike 44 = .ok (.ireturn, 1) := by decide +kernel
set_option maxHeartbeats 4000000 in
set_option maxRecDepth 20000 in
theorem c_X2_strike (ad : Nat → Nat) (cs : ClassId × ClassId × ClassId) (K : mK) (rest : va_W) (p0 : Int32) (p1 : Int32) : mCt (mTy cs) yX2_strike cX2_strike 5 (some .int) ⟨7, 2, 12, 103⟩ [.ref (ad 0), .int p0, .int p1] (mWd ad cs K rest) (mWi ad cs K rest) (mTh [xI] (mWd ad cs K rest)) := by
  refine mCt.of (by decide +kernel) (Nat.le_of_ble_eq_true rfl) (fun X hX hE => ?_)
  have hX : mOK X RX2 cX2_strike 5 ⟨7, 2, 12, 103⟩ [] (mTy cs) := hX
  refine r_aload_n hX dX2_strike_0 rfl rfl ?_
  refine r_get hX kf_X2_20 0 rfl rfl dX2_strike_1 ?_
  refine r_iload_n hX dX2_strike_4 rfl rfl ?_
  refine r_callS hX (c_X2_at ad cs _ 3 _ 4 0 rfl (by decide) _) ks_X2_84 rfl rfl (Nat.le_of_ble_eq_true rfl) ⟨(Nat.le_of_ble_eq_true rfl), (Nat.le_of_ble_eq_true rfl)⟩ ⟨(Nat.le_of_ble_eq_true rfl), (Nat.le_of_ble_eq_true rfl)⟩ dX2_strike_5 (fun E ws9 z => r_out hX hE (Nat.le_of_ble_eq_true rfl) (Nat.le_of_ble_eq_true rfl) (⟨by rw [z.1]; exact List.mem_cons_self, z.2.1⟩)) (fun v9 ws9 h1 => ?_)
  obtain ⟨i3, hhi3, rfl, rfl, hw9⟩ := h1
  subst ws9
  dsimp only [mPush]
  refine r_astore_n hX dX2_strike_8 rfl (by decide) rfl ?_
  refine r_aload_n hX dX2_strike_9 rfl rfl ?_
  refine r_get hX kf_X2_24 0 rfl rfl dX2_strike_10 ?_
  refine r_iload_n hX dX2_strike_13 rfl rfl ?_
  refine r_callS hX (c_X2_at ad cs _ 4 _ 3 4 rfl (by decide) _) ks_X2_84 rfl rfl (Nat.le_of_ble_eq_true rfl) ⟨(Nat.le_of_ble_eq_true rfl), (Nat.le_of_ble_eq_true rfl)⟩ ⟨(Nat.le_of_ble_eq_true rfl), (Nat.le_of_ble_eq_true rfl)⟩ dX2_strike_14 (fun E ws9 z => r_out hX hE (Nat.le_of_ble_eq_true rfl) (Nat.le_of_ble_eq_true rfl) (⟨by rw [z.1]; exact List.mem_cons_self, z.2.1⟩)) (fun v9 ws9 h4 => ?_)
  obtain ⟨i6, hhi6, rfl, rfl, hw9⟩ := h4
  subst ws9
  dsimp only [mPush]
  refine r_astore hX dX2_strike_17 (by decide) rfl ?_
  refine r_aload_n hX dX2_strike_19 rfl rfl ?_
  refine r_aload_n hX dX2_strike_20 rfl rfl ?_
  refine r_aload_n hX dX2_strike_21 rfl rfl ?_
  refine r_callV hX (c_X1_beginOfDay _ _ (i3 + 5) _ _ _ _ (mWd_loc (d := i3) (by omega))) kv_X2_190 (i3 + 5) (mWd_loc (d := i3) (by omega)) rfl rfl rfl (Nat.le_of_ble_eq_true rfl) ⟨(Nat.le_of_ble_eq_true rfl), (Nat.le_of_ble_eq_true rfl)⟩ ⟨(Nat.le_of_ble_eq_true rfl), (Nat.le_of_ble_eq_true rfl)⟩ dX2_strike_22 (fun _ _ z => False.elim z) (fun v9 ws9 h7 => ?_)
  obtain ⟨r9, rfl, hw9⟩ := h7
  subst ws9
  dsimp only [mPush]
  refine r_aload hX dX2_strike_25 rfl ?_
  refine r_getN hX kg_X2_146 (i6 + 4 + 5) (mWd_loc (d := i6 + 4) (by omega)) rfl dX2_strike_27 ?_
  refine r_ladd hX dX2_strike_30 ?_
  refine r_aload hX dX2_strike_31 rfl ?_
  refine r_getN hX kg_X2_172 (i6 + 4 + 5) (mWd_loc (d := i6 + 4) (by omega)) rfl dX2_strike_33 ?_
  refine r_aload hX dX2_strike_36 rfl ?_
  refine r_getN hX kg_X2_158 (i6 + 4 + 5) (mWd_loc (d := i6 + 4) (by omega)) rfl dX2_strike_38 ?_
  refine r_callV hX (c_X2_putLocal _ _ _ _ i3 (by omega) _ _ _) kv_X2_132 0 rfl rfl rfl rfl (Nat.le_of_ble_eq_true rfl) ⟨(Nat.le_of_ble_eq_true rfl), (Nat.le_of_ble_eq_true rfl)⟩ ⟨(Nat.le_of_ble_eq_true rfl), (Nat.le_of_ble_eq_true rfl)⟩ dX2_strike_41 (fun _ _ z => False.elim z) (fun v9 ws9 h10 => ?_)
  obtain ⟨r12, K13, hK13, rfl, hw9⟩ := h10
  subst ws9
  dsimp only [mPush]
  exact r_iret hX hE dX2_strike_44 (Nat.le_of_ble_eq_true rfl) (Nat.le_of_ble_eq_true rfl) ⟨_, K13, (hK13.trans rfl), rfl, rfl⟩
theorem dX2_moveClock_0 : decode cX2_moveClock 0 = .ok (.aload_n 0, 1) := by decide +kernel
theorem dX2_moveClock_1 : decode cX2_moveClock 1 = .ok (.getfield 24, 3) := by decide +kernel
theorem dX2_moveClock_4 : decode cX2_moveClock 4 = .ok (.iload_n 1, 1) := by decide +kernel
theorem dX2_moveClock_5 : decode cX2_moveClock 5 = .ok (.invokestatic 84, 3) := by decide +kernel
theorem dX2_moveClock_8 : decode cX2_moveClock 8 = .ok (.astore 5, 2) := by decide +kernel
theorem dX2_moveClock_10 : decode cX2_moveClock 10 = .ok (.iload_n 2, 1) := by decide +kernel
theorem dX2_moveClock_11 : decode cX2_moveClock 11 = .ok (.iconst 4, 1) := by decide +kernel
theorem dX2_moveClock_12 : decode cX2_moveClock 12 = .ok (.bipush 7, 2) := by decide +kernel
theorem dX2_moveClock_14 : decode cX2_moveClock 14 = .ok (.invokestatic 40, 3) := by decide +kernel
theorem dX2_moveClock_17 : decode cX2_moveClock 17 = .ok (.iload_n 3, 1) := by decide +kernel
theorem dX2_moveClock_18 : decode cX2_moveClock 18 = .ok (.iload 4, 2) := by decide +kernel
theorem dX2_moveClock_20 : decode cX2_moveClock 20 = .ok (.invokestatic 80, 3) := by decide +kernel
theorem dX2_moveClock_23 : decode cX2_moveClock 23 = .ok (.lstore 6, 2) := by decide +kernel
theorem dX2_moveClock_25 : decode cX2_moveClock 25 = .ok (.aload_n 0, 1) := by decide +kernel
theorem dX2_moveClock_26 : decode cX2_moveClock 26 = .ok (.aload 5, 2) := by decide +kernel
theorem dX2_moveClock_28 : decode cX2_moveClock 28 = .ok (.aload 5, 2) := by decide +kernel
theorem dX2_moveClock_30 : decode cX2_moveClock 30 = .ok (.getfield 146, 3) := by decide +kernel
theorem dX2_moveClock_33 : decode cX2_moveClock 33 = .ok (.aload 5, 2) := by decide +kernel
theorem dX2_moveClock_35 : decode cX2_moveClock 35 = .ok (.iload_n 2, 1) := by decide +kernel
theorem dX2_moveClock_36 : decode cX2_moveClock 36 = .ok (.lload 6, 2) := by decide +kernel
theorem dX2_moveClock_38 : decode cX2_moveClock 38 = .ok (.invokestatic 150, 3) := by decide +kernel
theorem dX2_moveClock_41 : decode cX2_moveClock 41 = .ok (.ladd, 1) := by decide +kernel
theorem dX2_moveClock_42 : decode cX2_moveClock 42 = .ok (.aload 5, 2) := by decide +kernel
theorem dX2_moveClock_44 : decode cX2_moveClock 44 = .ok (.iload_n 2, 1) := by decide +kernel
theorem dX2_moveClock_45 : decode cX2_moveClock 45 = .ok (.lload 6, 2) := by decide +kernel
theorem dX2_moveClock_47 : decode cX2_moveClock 47 = .ok (.invokestatic 154, 3) := by decide +kernel
theorem dX2_moveClock_50 : decode cX2_moveClock 50 = .ok (.aload 5, 2) := by decide +kernel
theorem dX2_moveClock_52 : decode cX2_moveClock 52 = .ok (.getfield 158, 3) := by decide +kernel
theorem dX2_moveClock_55 : decode cX2_moveClock 55 = .ok (.invokevirtual 187, 3) := by decide +kernel
theorem dX2_moveClock_58 : decode cX2_moveClock 58 = .ok (.ireturn, 1) := by decide +kernel
set_option maxHeartbeats 4000000 in
set_option maxRecDepth 20000 in
theorem c_X2_moveClock (ad : Nat → Nat) (cs : ClassId × ClassId × ClassId) (K : mK) (rest : va_W) (p0 : Int32) (p1 : Int32) (p2 : Int32) (p3 : Int32) : mCt (mTy cs) yX2_moveClock cX2_moveClock 8 (some .int) ⟨7, 2, 12, 104⟩ [.ref (ad 0), .int p0, .int p1, .int p2, .int p3] (mWd ad cs K rest) (mWi ad cs K rest) (mTh [xI, xA] (mWd ad cs K rest)) := by
  refine mCt.of (by decide +kernel) (Nat.le_of_ble_eq_true rfl) (fun X hX hE => ?_)
  have hX : mOK X RX2 cX2_moveClock 8 ⟨7, 2, 12, 104⟩ [] (mTy cs) := hX
  refine r_aload_n hX dX2_moveClock_0 rfl rfl ?_
  refine r_get hX kf_X2_24 0 rfl rfl dX2_moveClock_1 ?_
  refine r_iload_n hX dX2_moveClock_4 rfl rfl ?_
  refine r_callS hX (c_X2_at ad cs _ 4 _ 3 4 rfl (by decide) _) ks_X2_84 rfl rfl (Nat.le_of_ble_eq_true rfl) ⟨(Nat.le_of_ble_eq_true rfl), (Nat.le_of_ble_eq_true rfl)⟩ ⟨(Nat.le_of_ble_eq_true rfl), (Nat.le_of_ble_eq_true rfl)⟩ dX2_moveClock_5 (fun E ws9 z => r_out hX hE (Nat.le_of_ble_eq_true rfl) (Nat.le_of_ble_eq_true rfl) (⟨by rw [z.1]; exact List.mem_cons_self, z.2.1⟩)) (fun v9 ws9 h1 => ?_)
  obtain ⟨i3, hhi3, rfl, rfl, hw9⟩ := h1
  subst ws9
  dsimp only [mPush]
  refine r_astore hX dX2_moveClock_8 (by decide) rfl ?_
  refine r_iload_n hX dX2_moveClock_10 rfl rfl ?_
  refine r_iconst (v := 4) hX dX2_moveClock_11 (by decide) ?_
  refine r_bipush (v := 7) hX dX2_moveClock_12 (by decide) ?_
  refine r_callS hX (c_X2_requireWithin _ _ _ _ _) ks_X2_40 rfl rfl (Nat.le_of_ble_eq_true rfl) ⟨(Nat.le_of_ble_eq_true rfl), (Nat.le_of_ble_eq_true rfl)⟩ ⟨(Nat.le_of_ble_eq_true rfl), (Nat.le_of_ble_eq_true rfl)⟩ dX2_moveClock_14 (fun E ws9 z => r_out hX hE (Nat.le_of_ble_eq_true rfl) (Nat.le_of_ble_eq_true rfl) (⟨by rw [z.1]; exact List.mem_cons_of_mem _ List.mem_cons_self, z.2.1⟩)) (fun v9 ws9 h4 => ?_)
  obtain ⟨a6, rfl, hw9⟩ := h4
  subst ws9
  dsimp only [mPush]
  refine r_iload_n hX dX2_moveClock_17 rfl rfl ?_
  refine r_iload hX dX2_moveClock_18 rfl ?_
  refine r_callS hX (c_X2_signed _ _ _ _) ks_X2_80 rfl rfl (Nat.le_of_ble_eq_true rfl) ⟨(Nat.le_of_ble_eq_true rfl), (Nat.le_of_ble_eq_true rfl)⟩ ⟨(Nat.le_of_ble_eq_true rfl), (Nat.le_of_ble_eq_true rfl)⟩ dX2_moveClock_20 (fun _ _ z => False.elim z) (fun v9 ws9 h7 => ?_)
  obtain ⟨r9, rfl, hw9⟩ := h7
  subst ws9
  dsimp only [mPush]
  refine r_lstore hX dX2_moveClock_23 (by decide) rfl ?_
  refine r_aload_n hX dX2_moveClock_25 rfl rfl ?_
  refine r_aload hX dX2_moveClock_26 rfl ?_
  refine r_aload hX dX2_moveClock_28 rfl ?_
  refine r_getN hX kg_X2_146 (i3 + 4 + 5) (mWd_loc (d := i3 + 4) (by omega)) rfl dX2_moveClock_30 ?_
  refine r_aload hX dX2_moveClock_33 rfl ?_
  refine r_iload_n hX dX2_moveClock_35 rfl rfl ?_
  refine r_lload hX dX2_moveClock_36 rfl ?_
  refine r_callS hX (c_X2_secondsOn _ _ (i3 + 4 + 5) _ _ _ _ (mWd_loc (d := i3 + 4) (by omega)) _ _) ks_X2_150 rfl rfl (Nat.le_of_ble_eq_true rfl) ⟨(Nat.le_of_ble_eq_true rfl), (Nat.le_of_ble_eq_true rfl)⟩ ⟨(Nat.le_of_ble_eq_true rfl), (Nat.le_of_ble_eq_true rfl)⟩ dX2_moveClock_38 (fun _ _ z => False.elim z) (fun v9 ws9 h10 => ?_)
  obtain ⟨r12, rfl, hw9⟩ := h10
  subst ws9
  dsimp only [mPush]
  refine r_ladd hX dX2_moveClock_41 ?_
  refine r_aload hX dX2_moveClock_42 rfl ?_
  refine r_iload_n hX dX2_moveClock_44 rfl rfl ?_
  refine r_lload hX dX2_moveClock_45 rfl ?_
  refine r_callS hX (c_X2_nanoOn _ _ (i3 + 4 + 5) _ _ _ _ (mWd_loc (d := i3 + 4) (by omega)) _ _) ks_X2_154 rfl rfl (Nat.le_of_ble_eq_true rfl) ⟨(Nat.le_of_ble_eq_true rfl), (Nat.le_of_ble_eq_true rfl)⟩ ⟨(Nat.le_of_ble_eq_true rfl), (Nat.le_of_ble_eq_true rfl)⟩ dX2_moveClock_47 (fun _ _ z => False.elim z) (fun v9 ws9 h13 => ?_)
  obtain ⟨r15, rfl, hw9⟩ := h13
  subst ws9
  dsimp only [mPush]
  refine r_aload hX dX2_moveClock_50 rfl ?_
  refine r_getN hX kg_X2_158 (i3 + 4 + 5) (mWd_loc (d := i3 + 4) (by omega)) rfl dX2_moveClock_52 ?_
  refine r_callV hX (c_X2_putClock _ _ _ _ (i3 + 4) (by omega) _ _ _) kv_X2_187 0 rfl rfl rfl rfl (Nat.le_of_ble_eq_true rfl) ⟨(Nat.le_of_ble_eq_true rfl), (Nat.le_of_ble_eq_true rfl)⟩ ⟨(Nat.le_of_ble_eq_true rfl), (Nat.le_of_ble_eq_true rfl)⟩ dX2_moveClock_55 (fun _ _ z => False.elim z) (fun v9 ws9 h16 => ?_)
  obtain ⟨r18, K19, hK19, rfl, hw9⟩ := h16
  subst ws9
  dsimp only [mPush]
  exact r_iret hX hE dX2_moveClock_58 (Nat.le_of_ble_eq_true rfl) (Nat.le_of_ble_eq_true rfl) ⟨_, K19, (hK19.trans rfl), rfl, rfl⟩
theorem dX2_anewClock_0 : decode cX2_anewClock 0 = .ok (.aload_n 0, 1) := by decide +kernel
theorem dX2_anewClock_1 : decode cX2_anewClock 1 = .ok (.getfield 24, 3) := by decide +kernel
theorem dX2_anewClock_4 : decode cX2_anewClock 4 = .ok (.iload_n 1, 1) := by decide +kernel
theorem dX2_anewClock_5 : decode cX2_anewClock 5 = .ok (.invokestatic 84, 3) := by decide +kernel
theorem dX2_anewClock_8 : decode cX2_anewClock 8 = .ok (.astore 4, 2) := by decide +kernel
theorem dX2_anewClock_10 : decode cX2_anewClock 10 = .ok (.aload_n 0, 1) := by decide +kernel
theorem dX2_anewClock_11 : decode cX2_anewClock 11 = .ok (.iload_n 2, 1) := by decide +kernel
theorem dX2_anewClock_12 : decode cX2_anewClock 12 = .ok (.invokevirtual 64, 3) := by decide +kernel
theorem dX2_anewClock_15 : decode cX2_anewClock 15 = .ok (.istore 5, 2) := by decide +kernel
theorem dX2_anewClock_17 : decode cX2_anewClock 17 = .ok (.iload_n 3, 1) := by decide +kernel
theorem dX2_anewClock_18 : decode cX2_anewClock 18 = .ok (.ifCond .eq 11, 3) := by decide +kernel
theorem dX2_anewClock_21 : decode cX2_anewClock 21 = .ok (.aload 4, 2) := by decide +kernel
theorem dX2_anewClock_23 : decode cX2_anewClock 23 = .ok (.getfield 146, 3) := by decide +kernel
theorem dX2_anewClock_26 : decode cX2_anewClock 26 = .ok (.goto 12, 3) := by decide +kernel
theorem dX2_anewClock_29 : decode cX2_anewClock 29 = .ok (.aload 4, 2) := by decide +kernel
theorem dX2_anewClock_31 : decode cX2_anewClock 31 = .ok (.invokevirtual 169, 3) := by decide +kernel
theorem dX2_anewClock_34 : decode cX2_anewClock 34 = .ok (.iload 5, 2) := by decide +kernel
theorem dX2_anewClock_36 : decode cX2_anewClock 36 = .ok (.i2l, 1) := by decide +kernel
theorem dX2_anewClock_37 : decode cX2_anewClock 37 = .ok (.ladd, 1) := by decide +kernel
theorem dX2_anewClock_38 : decode cX2_anewClock 38 = .ok (.lstore 6, 2) := by decide +kernel
theorem dX2_anewClock_40 : decode cX2_anewClock 40 = .ok (.aload_n 0, 1) := by decide +kernel
theorem dX2_anewClock_41 : decode cX2_anewClock 41 = .ok (.aload 4, 2) := by decide +kernel
theorem dX2_anewClock_43 : decode cX2_anewClock 43 = .ok (.lload 6, 2) := by decide +kernel
theorem dX2_anewClock_45 : decode cX2_anewClock 45 = .ok (.aload 4, 2) := by decide +kernel
theorem dX2_anewClock_47 : decode cX2_anewClock 47 = .ok (.getfield 172, 3) := by decide +kernel
theorem dX2_anewClock_50 : decode cX2_anewClock 50 = .ok (.iload 5, 2) := by decide +kernel
theorem dX2_anewClock_52 : decode cX2_anewClock 52 = .ok (.invokevirtual 187, 3) := by decide +kernel
theorem dX2_anewClock_55 : decode cX2_anewClock 55 = .ok (.ireturn, 1) := by decide +kernel
set_option maxHeartbeats 4000000 in
set_option maxRecDepth 20000 in
theorem c_X2_anewClock (ad : Nat → Nat) (cs : ClassId × ClassId × ClassId) (K : mK) (rest : va_W) (p0 : Int32) (p1 : Int32) (p2 : Int32) : mCt (mTy cs) yX2_anewClock cX2_anewClock 8 (some .int) ⟨8, 2, 12, 124⟩ [.ref (ad 0), .int p0, .int p1, .int p2] (mWd ad cs K rest) (mWi ad cs K rest) (mTh [xI] (mWd ad cs K rest)) := by
  refine mCt.of (by decide +kernel) (Nat.le_of_ble_eq_true rfl) (fun X hX hE => ?_)
  have hX : mOK X RX2 cX2_anewClock 8 ⟨8, 2, 12, 124⟩ [] (mTy cs) := hX
  refine r_aload_n hX dX2_anewClock_0 rfl rfl ?_
  refine r_get hX kf_X2_24 0 rfl rfl dX2_anewClock_1 ?_
  refine r_iload_n hX dX2_anewClock_4 rfl rfl ?_
  refine r_callS hX (c_X2_at ad cs _ 4 _ 3 4 rfl (by decide) _) ks_X2_84 rfl rfl (Nat.le_of_ble_eq_true rfl) ⟨(Nat.le_of_ble_eq_true rfl), (Nat.le_of_ble_eq_true rfl)⟩ ⟨(Nat.le_of_ble_eq_true rfl), (Nat.le_of_ble_eq_true rfl)⟩ dX2_anewClock_5 (fun E ws9 z => r_out hX hE (Nat.le_of_ble_eq_true rfl) (Nat.le_of_ble_eq_true rfl) (⟨by rw [z.1]; exact List.mem_cons_self, z.2.1⟩)) (fun v9 ws9 h1 => ?_)
  obtain ⟨i3, hhi3, rfl, rfl, hw9⟩ := h1
  subst ws9
  dsimp only [mPush]
  refine r_astore hX dX2_anewClock_8 (by decide) rfl ?_
  refine r_aload_n hX dX2_anewClock_10 rfl rfl ?_
  refine r_iload_n hX dX2_anewClock_11 rfl rfl ?_
  refine r_callV hX (c_X2_seconds _ _ _ _ _) kv_X2_64 0 rfl rfl rfl rfl (Nat.le_of_ble_eq_true rfl) ⟨(Nat.le_of_ble_eq_true rfl), (Nat.le_of_ble_eq_true rfl)⟩ ⟨(Nat.le_of_ble_eq_true rfl), (Nat.le_of_ble_eq_true rfl)⟩ dX2_anewClock_12 (fun E ws9 z => r_out hX hE (Nat.le_of_ble_eq_true rfl) (Nat.le_of_ble_eq_true rfl) (⟨by rw [z.1]; exact List.mem_cons_self, z.2.1⟩)) (fun v9 ws9 h4 => ?_)
  obtain ⟨i6, hhi6, rfl, rfl, hw9⟩ := h4
  subst ws9
  dsimp only [mPush]
  refine r_istore hX dX2_anewClock_15 (by decide) rfl ?_
  refine r_iload_n hX dX2_anewClock_17 rfl rfl ?_
  refine r_if_eq (tgt := 29) hX dX2_anewClock_18 (by decide) (fun c7 => ?_) (fun c7 => ?_)
  · refine r_aload hX dX2_anewClock_29 rfl ?_
    refine r_callV hX (c_X1_momentSecond _ _ (i3 + 4 + 5) _ _ _ _ (mWd_loc (d := i3 + 4) (by omega))) kv_X2_169 (i3 + 4 + 5) (mWd_loc (d := i3 + 4) (by omega)) rfl rfl rfl (Nat.le_of_ble_eq_true rfl) ⟨(Nat.le_of_ble_eq_true rfl), (Nat.le_of_ble_eq_true rfl)⟩ ⟨(Nat.le_of_ble_eq_true rfl), (Nat.le_of_ble_eq_true rfl)⟩ dX2_anewClock_31 (fun _ _ z => False.elim z) (fun v9 ws9 h8 => ?_)
    obtain ⟨r10, rfl, hw9⟩ := h8
    subst ws9
    dsimp only [mPush]
    refine r_iload hX dX2_anewClock_34 rfl ?_
    refine r_i2l hX dX2_anewClock_36 ?_
    refine r_ladd hX dX2_anewClock_37 ?_
    refine r_lstore hX dX2_anewClock_38 (by decide) rfl ?_
    refine r_aload_n hX dX2_anewClock_40 rfl rfl ?_
    refine r_aload hX dX2_anewClock_41 rfl ?_
    refine r_lload hX dX2_anewClock_43 rfl ?_
    refine r_aload hX dX2_anewClock_45 rfl ?_
    refine r_getN hX kg_X2_172 (i3 + 4 + 5) (mWd_loc (d := i3 + 4) (by omega)) rfl dX2_anewClock_47 ?_
    refine r_iload hX dX2_anewClock_50 rfl ?_
    refine r_callV hX (c_X2_putClock _ _ _ _ (i3 + 4) (by omega) _ _ _) kv_X2_187 0 rfl rfl rfl rfl (Nat.le_of_ble_eq_true rfl) ⟨(Nat.le_of_ble_eq_true rfl), (Nat.le_of_ble_eq_true rfl)⟩ ⟨(Nat.le_of_ble_eq_true rfl), (Nat.le_of_ble_eq_true rfl)⟩ dX2_anewClock_52 (fun _ _ z => False.elim z) (fun v9 ws9 h11 => ?_)
    obtain ⟨r13, K14, hK14, rfl, hw9⟩ := h11
    subst ws9
    dsimp only [mPush]
    exact r_iret hX hE dX2_anewClock_55 (Nat.le_of_ble_eq_true rfl) (Nat.le_of_ble_eq_true rfl) ⟨_, K14, (hK14.trans rfl), rfl, rfl⟩
  · refine r_aload hX dX2_anewClock_21 rfl ?_
    refine r_getN hX kg_X2_146 (i3 + 4 + 5) (mWd_loc (d := i3 + 4) (by omega)) rfl dX2_anewClock_23 ?_
    refine r_goto (tgt := 38) hX dX2_anewClock_26 (by decide) ?_
    refine r_lstore hX dX2_anewClock_38 (by decide) rfl ?_
    refine r_aload_n hX dX2_anewClock_40 rfl rfl ?_
    refine r_aload hX dX2_anewClock_41 rfl ?_
    refine r_lload hX dX2_anewClock_43 rfl ?_
    refine r_aload hX dX2_anewClock_45 rfl ?_
    refine r_getN hX kg_X2_172 (i3 + 4 + 5) (mWd_loc (d := i3 + 4) (by omega)) rfl dX2_anewClock_47 ?_
    refine r_iload hX dX2_anewClock_50 rfl ?_
    refine r_callV hX (c_X2_putClock _ _ _ _ (i3 + 4) (by omega) _ _ _) kv_X2_187 0 rfl rfl rfl rfl (Nat.le_of_ble_eq_true rfl) ⟨(Nat.le_of_ble_eq_true rfl), (Nat.le_of_ble_eq_true rfl)⟩ ⟨(Nat.le_of_ble_eq_true rfl), (Nat.le_of_ble_eq_true rfl)⟩ dX2_anewClock_52 (fun _ _ z => False.elim z) (fun v9 ws9 h15 => ?_)
    obtain ⟨r17, K18, hK18, rfl, hw9⟩ := h15
    subst ws9
    dsimp only [mPush]
    exact r_iret hX hE dX2_anewClock_55 (Nat.le_of_ble_eq_true rfl) (Nat.le_of_ble_eq_true rfl) ⟨_, K18, (hK18.trans rfl), rfl, rfl⟩
theorem dX2_copyClock_0 : decode cX2_copyClock 0 = .ok (.aload_n 0, 1) := by decide +kernel
theorem dX2_copyClock_1 : decode cX2_copyClock 1 = .ok (.getfield 24, 3) := by decide +kernel
theorem dX2_copyClock_4 : decode cX2_copyClock 4 = .ok (.iload_n 1, 1) := by decide +kernel
theorem dX2_copyClock_5 : decode cX2_copyClock 5 = .ok (.invokestatic 84, 3) := by decide +kernel
theorem dX2_copyClock_8 : decode cX2_copyClock 8 = .ok (.astore_n 3, 1) := by decide +kernel
theorem dX2_copyClock_9 : decode cX2_copyClock 9 = .ok (.aload_n 0, 1) := by decide +kernel
theorem dX2_copyClock_10 : decode cX2_copyClock 10 = .ok (.getfield 24, 3) := by decide +kernel
theorem dX2_copyClock_13 : decode cX2_copyClock 13 = .ok (.iload_n 2, 1) := by decide +kernel
theorem dX2_copyClock_14 : decode cX2_copyClock 14 = .ok (.invokestatic 84, 3) := by decide +kernel
theorem dX2_copyClock_17 : decode cX2_copyClock 17 = .ok (.astore 4, 2) := by decide +kernel
theorem dX2_copyClock_19 : decode cX2_copyClock 19 = .ok (.aload_n 0, 1) := by decide +kernel
theorem dX2_copyClock_20 : decode cX2_copyClock 20 = .ok (.aload_n 3, 1) := by decide +kernel
theorem dX2_copyClock_21 : decode cX2_copyClock 21 = .ok (.aload 4, 2) := by decide +kernel
theorem dX2_copyClock_23 : decode cX2_copyClock 23 = .ok (.getfield 146, 3) := by decide +kernel
theorem dX2_copyClock_26 : decode cX2_copyClock 26 = .ok (.aload 4, 2) := by decide +kernel
theorem dX2_copyClock_28 : decode cX2_copyClock 28 = .ok (.getfield 172, 3) := by decide +kernel
theorem dX2_copyClock_31 : decode cX2_copyClock 31 = .ok (.aload 4, 2) := by decide +kernel
theorem dX2_copyClock_33 : decode cX2_copyClock 33 = .ok (.getfield 158, 3) := by decide +kernel
theorem dX2_copyClock_36 : decode cX2_copyClock 36 = .ok (.invokevirtual 187, 3) := by decide +kernel
theorem dX2_copyClock_39 : decode cX2_copyClock 39 = .ok (.ireturn, 1) := by decide +kernel
set_option maxHeartbeats 4000000 in
set_option maxRecDepth 20000 in
theorem c_X2_copyClock (ad : Nat → Nat) (cs : ClassId × ClassId × ClassId) (K : mK) (rest : va_W) (p0 : Int32) (p1 : Int32) : mCt (mTy cs) yX2_copyClock cX2_copyClock 5 (some .int) ⟨7, 2, 12, 103⟩ [.ref (ad 0), .int p0, .int p1] (mWd ad cs K rest) (mWi ad cs K rest) (mTh [xI] (mWd ad cs K rest)) := by
  refine mCt.of (by decide +kernel) (Nat.le_of_ble_eq_true rfl) (fun X hX hE => ?_)
  have hX : mOK X RX2 cX2_copyClock 5 ⟨7, 2, 12, 103⟩ [] (mTy cs) := hX
  refine r_aload_n hX dX2_copyClock_0 rfl rfl ?_
  refine r_get hX kf_X2_24 0 rfl rfl dX2_copyClock_1 ?_
  refine r_iload_n hX dX2_copyClock_4 rfl rfl ?_
  refine r_callS hX (c_X2_at ad cs _ 4 _ 3 4 rfl (by decide) _) ks_X2_84 rfl rfl (Nat.le_of_ble_eq_true rfl) ⟨(Nat.le_of_ble_eq_true rfl), (Nat.le_of_ble_eq_true rfl)⟩ ⟨(Nat.le_of_ble_eq_true rfl), (Nat.le_of_ble_eq_true rfl)⟩ dX2_copyClock_5 (fun E ws9 z => r_out hX hE (Nat.le_of_ble_eq_true rfl) (Nat.le_of_ble_eq_true rfl) (⟨by rw [z.1]; exact List.mem_cons_self, z.2.1⟩)) (fun v9 ws9 h1 => ?_)
  obtain ⟨i3, hhi3, rfl, rfl, hw9⟩ := h1
  subst ws9
  dsimp only [mPush]
  refine r_astore_n hX dX2_copyClock_8 rfl (by decide) rfl ?_
  refine r_aload_n hX dX2_copyClock_9 rfl rfl ?_
  refine r_get hX kf_X2_24 0 rfl rfl dX2_copyClock_10 ?_
  refine r_iload_n hX dX2_copyClock_13 rfl rfl ?_
  refine r_callS hX (c_X2_at ad cs _ 4 _ 3 4 rfl (by decide) _) ks_X2_84 rfl rfl (Nat.le_of_ble_eq_true rfl) ⟨(Nat.le_of_ble_eq_true rfl), (Nat.le_of_ble_eq_true rfl)⟩ ⟨(Nat.le_of_ble_eq_true rfl), (Nat.le_of_ble_eq_true rfl)⟩ dX2_copyClock_14 (fun E ws9 z => r_out hX hE (Nat.le_of_ble_eq_true rfl) (Nat.le_of_ble_eq_true rfl) (⟨by rw [z.1]; exact List.mem_cons_self, z.2.1⟩)) (fun v9 ws9 h4 => ?_)
  obtain ⟨i6, hhi6, rfl, rfl, hw9⟩ := h4
  subst ws9
  dsimp only [mPush]
  refine r_astore hX dX2_copyClock_17 (by decide) rfl ?_
  refine r_aload_n hX dX2_copyClock_19 rfl rfl ?_
  refine r_aload_n hX dX2_copyClock_20 rfl rfl ?_
  refine r_aload hX dX2_copyClock_21 rfl ?_
  refine r_getN hX kg_X2_146 (i6 + 4 + 5) (mWd_loc (d := i6 + 4) (by omega)) rfl dX2_copyClock_23 ?_
  refine r_aload hX dX2_copyClock_26 rfl ?_
  refine r_getN hX kg_X2_172 (i6 + 4 + 5) (mWd_loc (d := i6 + 4) (by omega)) rfl dX2_copyClock_28 ?_
  refine r_aload hX dX2_copyClock_31 rfl ?_
  refine r_getN hX kg_X2_158 (i6 + 4 + 5) (mWd_loc (d := i6 + 4) (by omega)) rfl dX2_copyClock_33 ?_
  refine r_callV hX (c_X2_putClock _ _ _ _ (i3 + 4) (by omega) _ _ _) kv_X2_187 0 rfl rfl rfl rfl (Nat.le_of_ble_eq_true rfl) ⟨(Nat.le_of_ble_eq_true rfl), (Nat.le_of_ble_eq_true rfl)⟩ ⟨(Nat.le_of_ble_eq_true rfl), (Nat.le_of_ble_eq_true rfl)⟩ dX2_copyClock_36 (fun _ _ z => False.elim z) (fun v9 ws9 h7 => ?_)
  obtain ⟨r9, K10, hK10, rfl, hw9⟩ := h7
  subst ws9
  dsimp only [mPush]
  exact r_iret hX hE dX2_copyClock_39 (Nat.le_of_ble_eq_true rfl) (Nat.le_of_ble_eq_true rfl) ⟨_, K10, (hK10.trans rfl), rfl, rfl⟩
theorem dX2_ofClock_0 : decode cX2_ofClock 0 = .ok (.aload_n 0, 1) := by decide +kernel
theorem dX2_ofClock_1 : decode cX2_ofClock 1 = .ok (.getfield 24, 3) := by decide +kernel
theorem dX2_ofClock_4 : decode cX2_ofClock 4 = .ok (.iload_n 1, 1) := by decide +kernel
theorem dX2_ofClock_5 : decode cX2_ofClock 5 = .ok (.invokestatic 84, 3) := by decide +kernel
theorem dX2_ofClock_8 : decode cX2_ofClock 8 = .ok (.astore_n 3, 1) := by decide +kernel
theorem dX2_ofClock_9 : decode cX2_ofClock 9 = .ok (.iload_n 2, 1) := by decide +kernel
theorem dX2_ofClock_10 : decode cX2_ofClock 10 = .ok (.iconst 0, 1) := by decide +kernel
theorem dX2_ofClock_11 : decode cX2_ofClock 11 = .ok (.iconst 5, 1) := by decide +kernel
theorem dX2_ofClock_12 : decode cX2_ofClock 12 = .ok (.invokestatic 40, 3) := by decide +kernel
theorem dX2_ofClock_15 : decode cX2_ofClock 15 = .ok (.aload_n 3, 1) := by decide +kernel
theorem dX2_ofClock_16 : decode cX2_ofClock 16 = .ok (.iload_n 2, 1) := by decide +kernel
theorem dX2_ofClock_17 : decode cX2_ofClock 17 = .ok (.invokestatic 193, 3) := by decide +kernel
theorem dX2_ofClock_20 : decode cX2_ofClock 20 = .ok (.ireturn, 1) := by decide +kernel
set_option maxHeartbeats 4000000 in
set_option maxRecDepth 20000 in
theorem c_X2_ofClock (ad : Nat → Nat) (cs : ClassId × ClassId × ClassId) (K : mK) (rest : va_W) (p0 : Int32) (p1 : Int32) : mCt (mTy cs) yX2_ofClock cX2_ofClock 4 (some .int) ⟨7, 2, 12, 104⟩ [.ref (ad 0), .int p0, .int p1] (mWd ad cs K rest) (mWi ad cs K rest) (mTh [xI, xA] (mWd ad cs K rest)) := by
  refine mCt.of (by decide +kernel) (Nat.le_of_ble_eq_true rfl) (fun X hX hE => ?_)
  have hX : mOK X RX2 cX2_ofClock 4 ⟨7, 2, 12, 104⟩ [] (mTy cs) := hX
  refine r_aload_n hX dX2_ofClock_0 rfl rfl ?_
  refine r_get hX kf_X2_24 0 rfl rfl dX2_ofClock_1 ?_
  refine r_iload_n hX dX2_ofClock_4 rfl rfl ?_
  refine r_callS hX (c_X2_at ad cs _ 4 _ 3 4 rfl (by decide) _) ks_X2_84 rfl rfl (Nat.le_of_ble_eq_true rfl) ⟨(Nat.le_of_ble_eq_true rfl), (Nat.le_of_ble_eq_true rfl)⟩ ⟨(Nat.le_of_ble_eq_true rfl), (Nat.le_of_ble_eq_true rfl)⟩ dX2_ofClock_5 (fun E ws9 z => r_out hX hE (Nat.le_of_ble_eq_true rfl) (Nat.le_of_ble_eq_true rfl) (⟨by rw [z.1]; exact List.mem_cons_self, z.2.1⟩)) (fun v9 ws9 h1 => ?_)
  obtain ⟨i3, hhi3, rfl, rfl, hw9⟩ := h1
  subst ws9
  dsimp only [mPush]
  refine r_astore_n hX dX2_ofClock_8 rfl (by decide) rfl ?_
  refine r_iload_n hX dX2_ofClock_9 rfl rfl ?_
  refine r_iconst (v := 0) hX dX2_ofClock_10 (by decide) ?_
  refine r_iconst (v := 5) hX dX2_ofClock_11 (by decide) ?_
  refine r_callS hX (c_X2_requireWithin _ _ _ _ _) ks_X2_40 rfl rfl (Nat.le_of_ble_eq_true rfl) ⟨(Nat.le_of_ble_eq_true rfl), (Nat.le_of_ble_eq_true rfl)⟩ ⟨(Nat.le_of_ble_eq_true rfl), (Nat.le_of_ble_eq_true rfl)⟩ dX2_ofClock_12 (fun E ws9 z => r_out hX hE (Nat.le_of_ble_eq_true rfl) (Nat.le_of_ble_eq_true rfl) (⟨by rw [z.1]; exact List.mem_cons_of_mem _ List.mem_cons_self, z.2.1⟩)) (fun v9 ws9 h4 => ?_)
  obtain ⟨a6, rfl, hw9⟩ := h4
  subst ws9
  dsimp only [mPush]
  refine r_aload_n hX dX2_ofClock_15 rfl rfl ?_
  refine r_iload_n hX dX2_ofClock_16 rfl rfl ?_
  refine r_callS hX (c_X2_clockPart _ _ (i3 + 4 + 5) _ _ _ _ (mWd_loc (d := i3 + 4) (by omega)) _) ks_X2_193 rfl rfl (Nat.le_of_ble_eq_true rfl) ⟨(Nat.le_of_ble_eq_true rfl), (Nat.le_of_ble_eq_true rfl)⟩ ⟨(Nat.le_of_ble_eq_true rfl), (Nat.le_of_ble_eq_true rfl)⟩ dX2_ofClock_17 (fun _ _ z => False.elim z) (fun v9 ws9 h7 => ?_)
  obtain ⟨r9, rfl, hw9⟩ := h7
  subst ws9
  dsimp only [mPush]
  exact r_iret hX hE dX2_ofClock_20 (Nat.le_of_ble_eq_true rfl) (Nat.le_of_ble_eq_true rfl) ⟨_, K, rfl, rfl, rfl⟩
theorem dX2_orderClock_0 : decode cX2_orderClock 0 = .ok (.aload_n 0, 1) := by decide +kernel
theorem dX2_orderClock_1 : decode cX2_orderClock 1 = .ok (.getfield 24, 3) := by decide +kernel
theorem dX2_orderClock_4 : decode cX2_orderClock 4 = .ok (.iload_n 1, 1) := by decide +kernel
theorem dX2_orderClock_5 : decode cX2_orderClock 5 = .ok (.invokestatic 84, 3) := by decide +kernel
theorem dX2_orderClock_8 : decode cX2_orderClock 8 = .ok (.aload_n 0, 1) := by decide +kernel
theorem dX2_orderClock_9 : decode cX2_orderClock 9 = .ok (.getfield 24, 3) := by decide +kernel
theorem dX2_orderClock_12 : decode cX2_orderClock 12 = .ok (.iload_n 2, 1) := by decide +kernel
theorem dX2_orderClock_13 : decode cX2_orderClock 13 = .ok (.invokestatic 84, 3) := by decide +kernel
theorem dX2_orderClock_16 : decode cX2_orderClock 16 = .ok (.invokevirtual 179, 3) := by decide +kernel
theorem dX2_orderClock_19 : decode cX2_orderClock 19 = .ok (.ireturn, 1) := by decide +kernel
set_option maxHeartbeats 4000000 in
set_option maxRecDepth 20000 in
theorem c_X2_orderClock (ad : Nat → Nat) (cs : ClassId × ClassId × ClassId) (K : mK) (rest : va_W) (p0 : Int32) (p1 : Int32) : mCt (mTy cs) yX2_orderClock cX2_orderClock 3 (some .int) ⟨7, 2, 12, 103⟩ [.ref (ad 0), .int p0, .int p1] (mWd ad cs K rest) (mWi ad cs K rest) (mTh [xI] (mWd ad cs K rest)) := by
  refine mCt.of (by decide +kernel) (Nat.le_of_ble_eq_true rfl) (fun X hX hE => ?_)
  have hX : mOK X RX2 cX2_orderClock 3 ⟨7, 2, 12, 103⟩ [] (mTy cs) := hX
  refine r_aload_n hX dX2_orderClock_0 rfl rfl ?_
  refine r_get hX kf_X2_24 0 rfl rfl dX2_orderClock_1 ?_
  refine r_iload_n hX dX2_orderClock_4 rfl rfl ?_
  refine r_callS hX (c_X2_at ad cs _ 4 _ 3 4 rfl (by decide) _) ks_X2_84 rfl rfl (Nat.le_of_ble_eq_true rfl) ⟨(Nat.le_of_ble_eq_true rfl), (Nat.le_of_ble_eq_true rfl)⟩ ⟨(Nat.le_of_ble_eq_true rfl), (Nat.le_of_ble_eq_true rfl)⟩ dX2_orderClock_5 (fun E ws9 z => r_out hX hE (Nat.le_of_ble_eq_true rfl) (Nat.le_of_ble_eq_true rfl) (⟨by rw [z.1]; exact List.mem_cons_self, z.2.1⟩)) (fun v9 ws9 h1 => ?_)
  obtain ⟨i3, hhi3, rfl, rfl, hw9⟩ := h1
  subst ws9
  dsimp only [mPush]
  refine r_aload_n hX dX2_orderClock_8 rfl rfl ?_
  refine r_get hX kf_X2_24 0 rfl rfl dX2_orderClock_9 ?_
  refine r_iload_n hX dX2_orderClock_12 rfl rfl ?_
  refine r_callS hX (c_X2_at ad cs _ 4 _ 3 4 rfl (by decide) _) ks_X2_84 rfl rfl (Nat.le_of_ble_eq_true rfl) ⟨(Nat.le_of_ble_eq_true rfl), (Nat.le_of_ble_eq_true rfl)⟩ ⟨(Nat.le_of_ble_eq_true rfl), (Nat.le_of_ble_eq_true rfl)⟩ dX2_orderClock_13 (fun E ws9 z => r_out hX hE (Nat.le_of_ble_eq_true rfl) (Nat.le_of_ble_eq_true rfl) (⟨by rw [z.1]; exact List.mem_cons_self, z.2.1⟩)) (fun v9 ws9 h4 => ?_)
  obtain ⟨i6, hhi6, rfl, rfl, hw9⟩ := h4
  subst ws9
  dsimp only [mPush]
  refine r_callV hX (c_X1_orderTo _ _ (i3 + 4 + 5) _ _ _ _ (mWd_loc (d := i3 + 4) (by omega)) (i6 + 4 + 5) _ _ _ _ (mWd_loc (d := i6 + 4) (by omega))) kv_X2_179 (i3 + 4 + 5) (mWd_loc (d := i3 + 4) (by omega)) rfl rfl rfl (Nat.le_of_ble_eq_true rfl) ⟨(Nat.le_of_ble_eq_true rfl), (Nat.le_of_ble_eq_true rfl)⟩ ⟨(Nat.le_of_ble_eq_true rfl), (Nat.le_of_ble_eq_true rfl)⟩ dX2_orderClock_16 (fun _ _ z => False.elim z) (fun v9 ws9 h7 => ?_)
  obtain ⟨r9, rfl, hw9⟩ := h7
  subst ws9
  dsimp only [mPush]
  exact r_iret hX hE dX2_orderClock_19 (Nat.le_of_ble_eq_true rfl) (Nat.le_of_ble_eq_true rfl) ⟨_, K, rfl, rfl, rfl⟩
theorem dX2_isClock_0 : decode cX2_isClock 0 = .ok (.aload_n 0, 1) := by decide +kernel
theorem dX2_isClock_1 : decode cX2_isClock 1 = .ok (.getfield 24, 3) := by decide +kernel
theorem dX2_isClock_4 : decode cX2_isClock 4 = .ok (.iload_n 1, 1) := by decide +kernel
theorem dX2_isClock_5 : decode cX2_isClock 5 = .ok (.invokestatic 84, 3) := by decide +kernel
theorem dX2_isClock_8 : decode cX2_isClock 8 = .ok (.astore 4, 2) := by decide +kernel
theorem dX2_isClock_10 : decode cX2_isClock 10 = .ok (.aload_n 0, 1) := by decide +kernel
theorem dX2_isClock_11 : decode cX2_isClock 11 = .ok (.getfield 24, 3) := by decide +kernel
theorem dX2_isClock_14 : decode cX2_isClock 14 = .ok (.iload_n 2, 1) := by decide +kernel
theorem dX2_isClock_15 : decode cX2_isClock 15 = .ok (.invokestatic 84, 3) := by decide +kernel
theorem dX2_isClock_18 : decode cX2_isClock 18 = .ok (.astore 5, 2) := by decide +kernel
theorem dX2_isClock_20 : decode cX2_isClock 20 = .ok (.iload_n 3, 1) := by decide +kernel
theorem dX2_isClock_21 : decode cX2_isClock 21 = .ok (.iconst 0, 1) := by decide +kernel
theorem dX2_isClock_22 : decode cX2_isClock 22 = .ok (.iconst 3, 1) := by decide +kernel
theorem dX2_isClock_23 : decode cX2_isClock 23 = .ok (.invokestatic 40, 3) := by decide +kernel
theorem dX2_isClock_26 : decode cX2_isClock 26 = .ok (.aload 4, 2) := by decide +kernel
theorem dX2_isClock_28 : decode cX2_isClock 28 = .ok (.aload 5, 2) := by decide +kernel
theorem dX2_isClock_30 : decode cX2_isClock 30 = .ok (.iload_n 3, 1) := by decide +kernel
theorem dX2_isClock_31 : decode cX2_isClock 31 = .ok (.invokestatic 183, 3) := by decide +kernel
theorem dX2_isClock_34 : decode cX2_isClock 34 = .ok (.ireturn, 1) := by decide +kernel
set_option maxHeartbeats 4000000 in
set_option maxRecDepth 20000 in
theorem c_X2_isClock (ad : Nat → Nat) (cs : ClassId × ClassId × ClassId) (K : mK) (rest : va_W) (p0 : Int32) (p1 : Int32) (p2 : Int32) : mCt (mTy cs) yX2_isClock cX2_isClock 6 (some .boolean) ⟨7, 3, 18, 104⟩ [.ref (ad 0), .int p0, .int p1, .int p2] (mWd ad cs K rest) (mWb ad cs K rest) (mTh [xI, xA] (mWd ad cs K rest)) := by
  refine mCt.of (by decide +kernel) (Nat.le_of_ble_eq_true rfl) (fun X hX hE => ?_)
  have hX : mOK X RX2 cX2_isClock 6 ⟨7, 3, 18, 104⟩ [] (mTy cs) := hX
  refine r_aload_n hX dX2_isClock_0 rfl rfl ?_
  refine r_get hX kf_X2_24 0 rfl rfl dX2_isClock_1 ?_
  refine r_iload_n hX dX2_isClock_4 rfl rfl ?_
  refine r_callS hX (c_X2_at ad cs _ 4 _ 3 4 rfl (by decide) _) ks_X2_84 rfl rfl (Nat.le_of_ble_eq_true rfl) ⟨(Nat.le_of_ble_eq_true rfl), (Nat.le_of_ble_eq_true rfl)⟩ ⟨(Nat.le_of_ble_eq_true rfl), (Nat.le_of_ble_eq_true rfl)⟩ dX2_isClock_5 (fun E ws9 z => r_out hX hE (Nat.le_of_ble_eq_true rfl) (Nat.le_of_ble_eq_true rfl) (⟨by rw [z.1]; exact List.mem_cons_self, z.2.1⟩)) (fun v9 ws9 h1 => ?_)
  obtain ⟨i3, hhi3, rfl, rfl, hw9⟩ := h1
  subst ws9
  dsimp only [mPush]
  refine r_astore hX dX2_isClock_8 (by decide) rfl ?_
  refine r_aload_n hX dX2_isClock_10 rfl rfl ?_
  refine r_get hX kf_X2_24 0 rfl rfl dX2_isClock_11 ?_
  refine r_iload_n hX dX2_isClock_14 rfl rfl ?_
  refine r_callS hX (c_X2_at ad cs _ 4 _ 3 4 rfl (by decide) _) ks_X2_84 rfl rfl (Nat.le_of_ble_eq_true rfl) ⟨(Nat.le_of_ble_eq_true rfl), (Nat.le_of_ble_eq_true rfl)⟩ ⟨(Nat.le_of_ble_eq_true rfl), (Nat.le_of_ble_eq_true rfl)⟩ dX2_isClock_15 (fun E ws9 z => r_out hX hE (Nat.le_of_ble_eq_true rfl) (Nat.le_of_ble_eq_true rfl) (⟨by rw [z.1]; exact List.mem_cons_self, z.2.1⟩)) (fun v9 ws9 h4 => ?_)
  obtain ⟨i6, hhi6, rfl, rfl, hw9⟩ := h4
  subst ws9
  dsimp only [mPush]
  refine r_astore hX dX2_isClock_18 (by decide) rfl ?_
  refine r_iload_n hX dX2_isClock_20 rfl rfl ?_
  refine r_iconst (v := 0) hX dX2_isClock_21 (by decide) ?_
  refine r_iconst (v := 3) hX dX2_isClock_22 (by decide) ?_
  refine r_callS hX (c_X2_requireWithin _ _ _ _ _) ks_X2_40 rfl rfl (Nat.le_of_ble_eq_true rfl) ⟨(Nat.le_of_ble_eq_true rfl), (Nat.le_of_ble_eq_true rfl)⟩ ⟨(Nat.le_of_ble_eq_true rfl), (Nat.le_of_ble_eq_true rfl)⟩ dX2_isClock_23 (fun E ws9 z => r_out hX hE (Nat.le_of_ble_eq_true rfl) (Nat.le_of_ble_eq_true rfl) (⟨by rw [z.1]; exact List.mem_cons_of_mem _ List.mem_cons_self, z.2.1⟩)) (fun v9 ws9 h7 => ?_)
  obtain ⟨a9, rfl, hw9⟩ := h7
  subst ws9
  dsimp only [mPush]
  refine r_aload hX dX2_isClock_26 rfl ?_
  refine r_aload hX dX2_isClock_28 rfl ?_
  refine r_iload_n hX dX2_isClock_30 rfl rfl ?_
  refine r_callS hX (c_X2_isSo _ _ (i3 + 4 + 5) _ _ _ _ (mWd_loc (d := i3 + 4) (by omega)) (i6 + 4 + 5) _ _ _ _ (mWd_loc (d := i6 + 4) (by omega)) _) ks_X2_183 rfl rfl (Nat.le_of_ble_eq_true rfl) ⟨(Nat.le_of_ble_eq_true rfl), (Nat.le_of_ble_eq_true rfl)⟩ ⟨(Nat.le_of_ble_eq_true rfl), (Nat.le_of_ble_eq_true rfl)⟩ dX2_isClock_31 (fun _ _ z => False.elim z) (fun v9 ws9 h10 => ?_)
  obtain ⟨r12, br12, rfl, hw9⟩ := h10
  subst ws9
  dsimp only [mPush]
  exact r_zret hX hE dX2_isClock_34 (mB_n br12) (Nat.le_of_ble_eq_true rfl) (Nat.le_of_ble_eq_true rfl) ⟨_, K, br12, rfl, rfl, rfl⟩
theorem dX2_knock_0 : decode cX2_knock 0 = .ok (.aload_n 0, 1) := by decide +kernel
theorem dX2_knock_1 : decode cX2_knock 1 = .ok (.dup, 1) := by decide +kernel
theorem dX2_knock_2 : decode cX2_knock 2 = .ok (.getfield 196, 3) := by decide +kernel
theorem dX2_knock_5 : decode cX2_knock 5 = .ok (.iconst 1, 1) := by decide +kernel
theorem dX2_knock_6 : decode cX2_knock 6 = .ok (.iadd, 1) := by decide +kernel
theorem dX2_knock_7 : decode cX2_knock 7 = .ok (.putfield 196, 3) := by decide +kernel
theorem dX2_knock_10 : decode cX2_knock 10 = .ok (.aload_n 0, 1) := by decide +kernel
theorem dX2_knock_11 : decode cX2_knock 11 = .ok (.getfield 196, 3) := by decide +kernel
theorem dX2_knock_14 : decode cX2_knock 14 = .ok (.ireturn, 1) := by decide +kernel
set_option maxHeartbeats 4000000 in
set_option maxRecDepth 20000 in
theorem c_X2_knock (ad : Nat → Nat) (cs : ClassId × ClassId × ClassId) (K : mK) (rest : va_W) : mCt (mTy cs) yX2_knock cX2_knock 1 (some .int) ⟨0, 0, 0, 0⟩ [.ref (ad 0)] (mWd ad cs K rest) (mWi ad cs K rest) mNo := by
  refine mCt.of (by decide +kernel) (Nat.le_of_ble_eq_true rfl) (fun X hX hE => ?_)
  have hX : mOK X RX2 cX2_knock 1 ⟨0, 0, 0, 0⟩ [] (mTy cs) := hX
  refine r_aload_n hX dX2_knock_0 rfl rfl ?_
  refine r_dup hX dX2_knock_1 rfl ?_
  refine r_get hX kf_X2_196 0 rfl rfl dX2_knock_2 ?_
  refine r_iconst (v := 1) hX dX2_knock_5 (by decide) ?_
  refine r_iadd hX dX2_knock_6 ?_
  refine r_put hX kf_X2_196 0 rfl rfl rfl rfl (Nat.le_of_ble_eq_true rfl) dX2_knock_7 ?_
  refine r_aload_n hX dX2_knock_10 rfl rfl ?_
  refine r_get hX kf_X2_196 0 rfl rfl dX2_knock_11 ?_
  exact r_iret hX hE dX2_knock_14 (Nat.le_of_ble_eq_true rfl) (Nat.le_of_ble_eq_true rfl) ⟨_, (K.1, K.2.1, K.2.2.1, K.2.2.2.1 + 1, K.2.2.2.2), rfl, rfl, rfl⟩
end
