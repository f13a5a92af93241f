/-! THE LOGIC: the machine's walk over a listed world, with all that is not looked at hidden; a row an instruction. (Own work; what it stands on is the kit's.) -/
/-- a word that stays true over a walk -/
def mgood (w : Cond) : Bool := match w with
  | .fieldLinkNest _ _ _ _ _ _ => true
  | .methodLinkNest _ _ _ _ => true
  | .castable _ _ => true
  | .declares _ => true
  | .arrayOver (.object _) => true
  | .privateMethod _ => true
  | w => goodWord w
def mW : List Cond := lw_tbl.filter mgood
theorem mW_of {w : Cond} (h : w ∈ lw_tbl) (g : mgood w = true) : w ∈ mW := List.mem_filter.mpr ⟨h, g⟩
theorem mW_at {w : Cond} (i : Nat) (h : lw_tbl[i]? = some w) (g : mgood w = true) : w ∈ mW := mW_of (List.mem_of_getElem? h) g
theorem mword {args a' : Array Value} {s U : State} (hW : s.WarmedH U.vm) {w : Cond} (g : mgood w = true) (h : w.before args s = true) : w.before a' U = true := by
  unfold mgood at g
  split at g
  · exact va_Nw.use rfl (va_Nw.warmF hW (va_Nw.of rfl h))
  · exact va_Nw.use rfl (va_Nw.warmM hW (va_Nw.of rfl h))
  · exact va_Nw.use rfl (va_Nw.warmC hW (va_Nw.of rfl h))
  · exact va_Nw.use rfl (va_Nw.warmD hW (va_Nw.of rfl h))
  · exact va_AO.use (va_AO.moved hW.alike (va_AO.of h))
  · exact va_Nw.use rfl (va_tabs rfl (rfl : (s.setVm U.vm).vm = U.vm) (by rw [Cond.privateMethod_setVm hW.alike]; exact va_Nw.of rfl h))
  · exact word_at hW (good_of_word g) h
theorem mwords {args : Array Value} {s : State} (h : ∀ w ∈ mW, w.before args s = true) {w : Cond} (hw : w ∈ mW) (a' : Array Value) (U : State) (hW : s.WarmedH U.vm) : w.before a' U = true :=
  mword hW (List.mem_filter.mp hw).2 (h w hw)
/-- an int table that nobody writes, by the static that holds it -/
def mTab (C n : String) (f : Nat → Int32) (A : Nat → Prop) (U : State) (H : Heap) : Prop := ∃ t : Nat, va_Z C n "[B" (.ref t) A U H ∧ va_T .byte t 100 (fun j => .int (f j)) A U H
/-- what the JDK's texts stand on: Latin-1 texts are on, the two tables of digits, the reference's own empty text -/
def mJdk (A : Nat → Prop) (U : State) (H : Heap) : Prop :=
  va_Z "java/lang/String" "COMPACT_STRINGS" "Z" (.int 1) A U H ∧ mTab "java/lang/Integer" "DigitOnes" (fun j => nI (48 + j % 10)) A U H ∧ mTab "java/lang/Integer" "DigitTens" (fun j => nI (48 + j / 10)) A U H ∧
  ∃ a v : Nat, vk_R RX4 119 "" a U ∧ va_O "java/lang/String" a A U H ∧ va_OF "java/lang/String" "coder" "B" (.int 0) a A U H ∧ va_OF "java/lang/String" "value" "[B" (.ref v) a A U H ∧ va_T .byte v 0 (fun _ => .int 0) A U H
theorem mJdk.to {A : Nat → Prop} {s U : State} (hW : s.WarmedH U.vm) (h : mJdk A s s.heap) (hq : ∀ a : Nat, a < s.heap.size → ¬ A a → U.heap[a]? = s.heap[a]?) : mJdk A U U.heap := by
  obtain ⟨h1, ⟨t, h2, h3⟩, ⟨t', h4, h5⟩, a, v, h6, h7, h8, h9, h10⟩ := h
  exact ⟨va_Z.moved hW.alike (h1.kept hq), ⟨t, va_Z.moved hW.alike (h2.kept hq), va_T.moved hW.alike (h3.kept hq)⟩, ⟨t', va_Z.moved hW.alike (h4.kept hq), va_T.moved hW.alike (h5.kept hq)⟩, a, v, vk_R.warm hW h6, va_O.moved hW.alike (h7.kept hq), va_OF.moved hW.alike (h8.kept hq), va_OF.moved hW.alike (h9.kept hq), va_T.moved hW.alike (h10.kept hq)⟩
/-- the two texts of the class's own exceptions, the two statics that a Throwable's constructor reads, and what the JDK's texts stand on -/
def mst (A : Nat → Prop) (U : State) : Prop :=
  (∃ a, vk_R RX2 252 "there is no such one" a U) ∧ (∃ a, vk_R RX2 259 "a number is not within its limits" a U) ∧ vx_Zq Bundle.tN "UNASSIGNED_STACK" Bundle.steD A U U.heap ∧ vx_Zq Bundle.tN "SUPPRESSED_SENTINEL" Bundle.listD A U U.heap ∧ mJdk A U U.heap
theorem mst.to {A : Nat → Prop} {s U : State} (hW : s.WarmedH U.vm) (h : mst A s) (hq : ∀ a : Nat, a < s.heap.size → ¬ A a → U.heap[a]? = s.heap[a]?) : mst A U := by
  obtain ⟨⟨a, h1⟩, ⟨b, h2⟩, h3, h4, h5⟩ := h
  exact ⟨⟨a, vk_R.warm hW h1⟩, ⟨b, vk_R.warm hW h2⟩, vx_Zq.moved hW.alike (h3.kept hq), vx_Zq.moved hW.alike (h4.kept hq), h5.to hW hq⟩
/-- what stands at a method's start -/
def mU (D : va_G) (tys : List (ClassId × FieldType)) (A : Nat → Prop) (ws : va_W) (U : State) : Prop :=
  va_P D vwCl ws U.heap ∧ va_D A ws ∧ va_K D vwCl tys U ∧ (∀ q : Nat, U.heap.size ≤ q → A q) ∧ mst A U
theorem mJdk.same {A : Nat → Prop} {u U : State} (hv : U.vm = u.vm) (hh : U.heap = u.heap) (h : mJdk A u u.heap) : mJdk A U U.heap := by
  obtain ⟨h1, ⟨t, h2, h3⟩, ⟨t', h4, h5⟩, a, v, h6, h7, h8, h9, h10⟩ := h
  have al : u.vm.Alike U.vm := by rw [hv]; exact Vm.Alike.refl _
  rw [hh]
  exact ⟨va_Z.moved al h1, ⟨t, va_Z.moved al h2, va_T.moved al h3⟩, ⟨t', va_Z.moved al h4, va_T.moved al h5⟩, a, v, vk_R.same hv h6, va_O.moved al h7, va_OF.moved al h8, va_OF.moved al h9, va_T.moved al h10⟩
theorem mU_blind {D : va_G} {tys : List (ClassId × FieldType)} {A : Nat → Prop} {ws : va_W} {as : List Value} : FrameBlind (va_Pc as (mU D tys A ws)) := by
  intro a U g mk h
  obtain ⟨e, hP, hD, hK, hA, ⟨a1, h1⟩, ⟨b1, h2⟩, h3, h4, h5⟩ := h
  exact ⟨e, hP, hD, va_K.moved (u := U) (U := U.calling g mk a) (Vm.Alike.refl U.vm) hK, hA, ⟨a1, vk_R.same rfl h1⟩, ⟨b1, vk_R.same rfl h2⟩, vx_Zq.moved (u := U) (U := U.calling g mk a) (Vm.Alike.refl U.vm) h3, vx_Zq.moved (u := U) (U := U.calling g mk a) (Vm.Alike.refl U.vm) h4, mJdk.same (u := U) (U := U.calling g mk a) rfl rfl h5⟩
def mQ (Φ : Option Value → va_W → Prop) (D : va_G) (A : Nat → Prop) : Array Value → State → Outcome → State → Prop := fun _ st oc t =>
  ∃ v ws', oc = .returned v ∧ Φ v ws' ∧ va_P D vwCl ws' t.heap ∧ va_D A ws' ∧ va_F A st t
def mX (Ψ : String → va_W → Prop) (D : va_G) (A : Nat → Prop) : String → State → State → Prop := fun E st t =>
  ∃ ws', Ψ E ws' ∧ va_P D vwCl ws' t.heap ∧ va_D A ws' ∧ va_F A st t
/-- A CONTRACT: at these arguments, in this world, the method returns v and the world ws' with Φ, or throws E in a world with Ψ -/
def mCt (tys : List (ClassId × FieldType)) (y : MethodName) (cc : ByteArray) (nL : Nat) (ret : Option FieldType) (rm : Room) (as : List Value) (ws : va_W) (Φ : Option Value → va_W → Prop) (Ψ : String → va_W → Prop) : Prop :=
  ∀ (l : Launch) (D : va_G) (A : Nat → Prop), l.stackTraces = false → vx_Met l y (Cond.code y cc nL ret :: mW) rm (va_Pc as (mU D tys A ws)) (mQ Φ D A) (mX Ψ D A) rm.cells rm.slots A
/-- the same for a method with handlers -/
def mCh (tys : List (ClassId × FieldType)) (y : MethodName) (cc : ByteArray) (nL : Nat) (ret : Option FieldType) (hh : List (Nat × Nat × Nat × Nat)) (rm : Room) (as : List Value) (ws : va_W) (Φ : Option Value → va_W → Prop) : Prop :=
  ∀ (l : Launch) (D : va_G) (A : Nat → Prop), l.stackTraces = false → vx_Met l y (Cond.codeWith y cc nL ret hh :: mW) rm (va_Pc as (mU D tys A ws)) (mQ Φ D A) (mX (fun _ _ => False) D A) rm.cells rm.slots A
abbrev mC : Type := Program × Launch × Env × Room × State × MethodId × Array Value × List Frame × Method × Code × (State → Prop) × va_G × List (ClassId × FieldType) × (Nat → Prop)
def lget : List (Nat × Option Value) → Nat → Option Value
  | [], _ => none
  | (j, v) :: r, i => bif Nat.beq j i then v else lget r i
/-- no long ends at this place -/
def lgp (lv : List (Nat × Option Value)) (i : Nat) : Bool := match i with
  | 0 => true
  | j + 1 => match lget lv j with
    | some w => Nat.beq w.category 1
    | none => true
def mL (ls : Array Slot) (nL : Nat) (lv : List (Nat × Option Value)) : Prop := ls.size = nL ∧ lv_wf ls ∧ ∀ i v, lget lv i = some v → ls[i]? = some (.val v)
theorem mL.st1 {ls : Array Slot} {nL : Nat} {lv : List (Nat × Option Value)} {i : Nat} {v : Value} (h : mL ls nL lv) (hi : i < nL) (hc : v.category = 1) (hp : lgp lv i = true) : ∃ ls', storeLocals ls i v = some ls' ∧ mL ls' nL ((i, some v) :: lv) := by
  obtain ⟨ls', e', h'⟩ := lv_store1 (l := []) (v := v) ⟨h.1, h.2.1, fun q hq => nomatch hq⟩ hi hc
  refine ⟨ls', e', h'.1, h'.2.1, fun j w hj => ?_⟩
  by_cases e : i = j
  · subst e
    have hw : some v = some w := by simpa [lget] using hj
    cases hw
    exact h'.2.2 (i, v) List.mem_cons_self
  · have hj' : lget lv j = some w := by
      have hb : Nat.beq i j = false := by
        cases hbe : Nat.beq i j
        · rfl
        · exact absurd (Nat.eq_of_beq_eq_true hbe) e
      simpa [lget, hb] using hj
    obtain ⟨ls'', e'', h''⟩ := lv_store1 (l := [(j, w)]) (v := v) ⟨h.1, h.2.1, fun q hq => by cases List.mem_singleton.mp hq; exact h.2.2 j w hj'⟩ hi hc
    cases e'.symm.trans e''
    refine h''.2.2 (j, w) (List.mem_cons_of_mem _ (List.mem_filter.mpr ⟨List.mem_singleton.mpr rfl, ?_⟩))
    have hcat : j + 1 = i → ¬ w.category = 2 := fun hji hw => by
      subst hji
      simp only [lgp, hj'] at hp
      have := Nat.eq_of_beq_eq_true hp
      omega
    have e2 : ¬ j = i := fun q => e q.symm
    by_cases hji : j + 1 = i
    · simp [e2, hcat hji]
    · simp [e2, hji]
theorem mL.st2 {ls : Array Slot} {nL : Nat} {lv : List (Nat × Option Value)} {i : Nat} {v : Value} (h : mL ls nL lv) (hi : i + 1 < nL) (hc : v.category = 2) (hp : lgp lv i = true) : ∃ ls', storeLocals ls i v = some ls' ∧ mL ls' nL ((i, some v) :: (i + 1, none) :: lv) := by
  obtain ⟨ls', e', h'⟩ := lv_store2 (l := []) (v := v) ⟨h.1, h.2.1, fun q hq => nomatch hq⟩ hi hc
  refine ⟨ls', e', h'.1, h'.2.1, fun j w hj => ?_⟩
  by_cases e : i = j
  · subst e
    have hw : some v = some w := by simpa [lget] using hj
    cases hw
    exact h'.2.2 (i, v) List.mem_cons_self
  · have hb : Nat.beq i j = false := by
      cases hbe : Nat.beq i j
      · rfl
      · exact absurd (Nat.eq_of_beq_eq_true hbe) e
    by_cases f : i + 1 = j
    · subst f
      simp [lget, hb] at hj
    · have hb2 : Nat.beq (i + 1) j = false := by
        cases hbe : Nat.beq (i + 1) j
        · rfl
        · exact absurd (Nat.eq_of_beq_eq_true hbe) f
      have hj' : lget lv j = some w := by simpa [lget, hb, hb2] using hj
      obtain ⟨ls'', e'', h''⟩ := lv_store2 (l := [(j, w)]) (v := v) ⟨h.1, h.2.1, fun q hq => by cases List.mem_singleton.mp hq; exact h.2.2 j w hj'⟩ hi hc
      cases e'.symm.trans e''
      refine h''.2.2 (j, w) (List.mem_cons_of_mem _ (List.mem_filter.mpr ⟨List.mem_singleton.mpr rfl, ?_⟩))
      have hcat : j + 1 = i → ¬ w.category = 2 := fun hji hw => by
        subst hji
        simp only [lgp, hj'] at hp
        have := Nat.eq_of_beq_eq_true hp
        omega
      have e2 : ¬ j = i := fun q => e q.symm
      have f2 : ¬ j = i + 1 := fun q => f q.symm
      by_cases hji : j + 1 = i
      · simp [e2, f2, hcat hji]
      · simp [e2, f2, hji]
/-- the locals that a loop's head names -/
theorem mL.sub {ls : Array Slot} {nL : Nat} {lv lv' : List (Nat × Option Value)} (h : mL ls nL lv) (hs : ∀ q ∈ lv', q.2 = none ∨ lget lv q.1 = q.2) : mL ls nL lv' := by
  refine ⟨h.1, h.2.1, fun i v hi => h.2.2 i v ?_⟩
  induction lv' with
  | nil => simp [lget] at hi
  | cons a r ih =>
    obtain ⟨j, w⟩ := a
    by_cases e : j = i
    · subst e
      have hb : Nat.beq j j = true := by simp
      have hw : w = some v := by simpa [lget, hb] using hi
      rcases hs (j, w) List.mem_cons_self with q | q
      · exact absurd (q : w = none) (by rw [hw]; exact fun z => nomatch z)
      · exact (q : lget lv j = w).trans hw
    · have hb : Nat.beq j i = false := by
        cases hbe : Nat.beq j i
        · rfl
        · exact absurd (Nat.eq_of_beq_eq_true hbe) e
      exact ih (fun q hq => hs q (List.mem_cons_of_mem _ hq)) (by simpa [lget, hb] using hi)
/-- THE WALK'S JUDGEMENT: at pc, locals lv, stack st, world ws, k cells and n slots made -/
def mV (X : mC) (pc : Nat) (lv : List (Nat × Option Value)) (st : List Value) (ws : va_W) (k n : Nat) : Prop := match X with
  | (p, l, e, R, s, m, args, below, meth, c, Q, D, _, A) => ∀ (H : Heap) (locs : List Loc) (ls : Array Slot), va_P D vwCl ws H → va_D A ws → va_S A s.heap H locs → mL ls c.maxLocals lv → W p l e R s m args below meth c H locs k n Q (F0 m pc ls st)
/-- .. with E thrown over it -/
def mT (X : mC) (pc : Nat) (lv : List (Nat × Option Value)) (st : List Value) (ws : va_W) (k n : Nat) (E : String) : Prop := match X with
  | (p, l, e, R, s, m, args, below, meth, c, Q, D, _, A) => ∀ (H : Heap) (locs : List Loc) (ls : Array Slot) (q : Addr) (ce : Cell), va_P D vwCl ws H → va_D A ws → va_S A s.heap H locs → mL ls c.maxLocals lv → H[q]? = some ce → ce.vm = .none → s.vm.findClass E = some ce.cls → vx_W p l e R s m args below meth c H locs k n Q (F0 m pc ls st) q
def mOK (X : mC) (own : String) (cc : ByteArray) (nL : Nat) (R : Room) (hh : List (Nat × Nat × Nat × Nat)) (tys : List (ClassId × FieldType)) : Prop := match X with
  | (p, l, _, R', s, m, args, _, meth, c, _, D, tys', A) => p.tables.exec = Jvm.exec ∧ c.code = cc ∧ c.maxLocals = nL ∧ R' = R ∧ s.vm.findClass own = some m.cls ∧ (∀ w ∈ mW, w.before args s = true) ∧ va_K D vwCl tys s ∧ tys' = tys ∧ meth.locks = false ∧ (∀ q : Nat, s.heap.size ≤ q → A q) ∧ mst A s ∧ l.stackTraces = false ∧ c.exceptionTable.toList = tableOf hh
/-- where the method may end -/
def mE (X : mC) (Φ : Option Value → va_W → Prop) (Ψ : String → va_W → Prop) (ret : Option FieldType) (mc ms : Nat) : Prop := match X with
  | (_, _, _, _, s, _, args, below, meth, _, Q, D, _, A) => meth.sig.returnType = ret ∧ Q = vx_MQ below (mQ Φ D A) (mX Ψ D A) args s mc ms A
def mlv (as : List Value) : List (Nat × Option Value) := (lv_args 0 as).map fun q => (q.1, some q.2)
theorem lget_mem {l : List (Nat × Value)} {i : Nat} {v : Value} (h : lget (l.map fun q => (q.1, some q.2)) i = some v) : (i, v) ∈ l := by
  induction l with
  | nil => simp [lget] at h
  | cons a r ih =>
    obtain ⟨j, w⟩ := a
    by_cases e : j = i
    · subst e
      have hw : some w = some v := by simpa [lget] using h
      cases hw
      exact List.mem_cons_self
    · have hb : Nat.beq j i = false := by
        cases hbe : Nat.beq j i
        · rfl
        · exact absurd (Nat.eq_of_beq_eq_true hbe) e
      exact List.mem_cons_of_mem _ (ih (by simpa [lget, hb] using h))
/-- a method's body, of any class whose method has no row in the table of natives -/
theorem vx_ofWF {l : Launch} {y : MethodName} {ws ws' : List Cond} {rm : Room} {Pc : Array Value → State → Prop} {Qc : Array Value → State → Outcome → State → Prop} {XC : String → State → State → Prop} {mc ms : Nat} {free : Addr → Prop} {cc : ByteArray} {maxL : Nat} {ret : Option FieldType}
    (hy : plainFor y = true) (hw : ws = Cond.code y cc maxL ret :: ws')
    (body : ∀ p e s m args below meth c s₁, BodyLoose p l y (headSpec ws rm) cc maxL ret e s m args below meth c s₁ → c.maxLocals = maxL → (∀ x ∈ c.exceptionTable.toList, False) → Pc args s →
      W p l e (headSpec ws rm).room s m args below meth c s.heap [] 0 0 (vx_MQ below Qc XC args s mc ms free) (entryFrame m args maxL)) : vx_Met l y ws rm Pc Qc XC mc ms free := by
  refine MetFree.of_bodySF (code := cc) (maxLocals := maxL) (ret := ret) hy ?_ ?_
  · intro args s m h hn
    obtain ⟨meth, c, h1, h2, h3, h4, h5, h6, -, -⟩ := Cond.code_spec hn (atoms_spec (ws := ws) h _ (by rw [hw]; exact List.mem_cons_self))
    exact ⟨meth, c, h1, h2, h3, h4, h5, h6⟩
  · intro p e s m args below meth c s₁ B hml hP _
    have hh0 : s₁.heap = s.heap := by rw [B.state]; rfl
    have ht : ∀ x ∈ c.exceptionTable.toList, False := by
      obtain ⟨meth9, c9, h1, h2, -, -, -, -, h7, -⟩ := Cond.code_spec B.named (atoms_spec (ws := ws) B.pre _ (by rw [hw]; exact List.mem_cons_self))
      cases Option.some.inj (h1.symm.trans B.method)
      cases Option.some.inj (h2.symm.trans (Stand.of_body B).code)
      intro x hx
      rw [Array.isEmpty_iff.mp h7] at hx
      cases hx
    obtain ⟨t, a1, o, b1, b2, b3⟩ := body p e s m args below meth c s₁ B hml ht hP s₁ hh0 (Stand.of_body B)
    exact ⟨t, o, a1, b1, b2, b3⟩
theorem mCt.of {tys : List (ClassId × FieldType)} {y : MethodName} {cc : ByteArray} {nL : Nat} {ret : Option FieldType} {rm : Room} {as : List Value} {ws : va_W} {Φ : Option Value → va_W → Prop} {Ψ : String → va_W → Prop} (hy : plainFor y = true) (hlen : (lg_sl as).length ≤ nL)
    (body : ∀ X, mOK X y.cls cc nL rm [] tys → mE X Φ Ψ ret rm.cells rm.slots → mV X 0 (mlv as) [] ws 0 0) : mCt tys y cc nL ret rm as ws Φ Ψ := by
  intro l D A hst
  refine vx_ofWF (cc := cc) (maxL := nL) (ret := ret) hy rfl ?_
  intro p e s m args below meth c s₁ B hml ht hv
  obtain ⟨rfl, hP, hD, hK, hA, hs⟩ := hv
  have hts := atoms_spec (ws := Cond.code y cc nL ret :: mW) B.pre
  have htab : c.exceptionTable.toList = tableOf [] := List.eq_nil_iff_forall_not_mem.mpr (fun x hx => ht x hx)
  have h0 := body (p, l, e, _, s, m, _, below, meth, c, _, D, tys, A) ⟨B.exec, B.bytes, hml, rfl, findClass_of_methodNamed B.named, fun w hw => hts w (List.mem_cons_of_mem _ hw), hK, rfl, B.notSynchronized, hA, hs, hst, htab⟩ ⟨B.returns, rfl⟩
  have hl := lv_entry as hlen
  rw [lg_entry_eq]
  exact h0 s.heap [] _ hP hD va_S.rf ⟨hl.1.trans hml.symm, hl.2.1, fun i v h => hl.2.2 (i, v) (lget_mem h)⟩
theorem mCh.of {tys : List (ClassId × FieldType)} {y : MethodName} {cc : ByteArray} {nL : Nat} {ret : Option FieldType} {hh : List (Nat × Nat × Nat × Nat)} {rm : Room} {as : List Value} {ws : va_W} {Φ : Option Value → va_W → Prop} (hy : plainName y.cls = true) (hlen : (lg_sl as).length ≤ nL)
    (body : ∀ X, mOK X y.cls cc nL rm hh tys → mE X Φ (fun _ _ => False) ret rm.cells rm.slots → mV X 0 (mlv as) [] ws 0 0) : mCh tys y cc nL ret hh rm as ws Φ := by
  intro l D A hst
  refine vx_ofWH (cc := cc) (maxL := nL) (ret := ret) (hh := hh) hy rfl ?_
  intro p e s m args below meth c s₁ B hml hv
  obtain ⟨rfl, hP, hD, hK, hA, hs⟩ := hv
  have hts := atoms_spec (ws := Cond.codeWith y cc nL ret hh :: mW) B.pre
  have htab : c.exceptionTable.toList = tableOf hh := vx_table (x := y) B (hts _ List.mem_cons_self)
  have h0 := body (p, l, e, _, s, m, _, below, meth, c, _, D, tys, A) ⟨B.exec, B.bytes, hml, rfl, findClass_of_methodNamed B.named, fun w hw => hts w (List.mem_cons_of_mem _ hw), hK, rfl, B.notSynchronized, hA, hs, hst, htab⟩ ⟨B.returns, rfl⟩
  have hl := lv_entry as hlen
  rw [lg_entry_eq]
  exact h0 s.heap [] _ hP hD va_S.rf ⟨hl.1.trans hml.symm, hl.2.1, fun i v h => hl.2.2 (i, v) (lget_mem h)⟩
/-- the method is a constructor -/
def mIni (X : mC) : Prop := match X with
  | (_, _, _, _, _, _, _, _, meth, _, _, _, _, _) => meth.name = "<init>"
section MR
variable {X : mC} {own : String} {cc : ByteArray} {nL : Nat} {R : Room} {hh : List (Nat × Nat × Nat × Nat)} {tys : List (ClassId × FieldType)} {pc : Nat} {lv : List (Nat × Option Value)} {st : List Value} {ws : va_W} {k n : Nat}
variable {Φ : Option Value → va_W → Prop} {Ψ : String → va_W → Prop} {mc ms : Nat} {ret : Option FieldType}

theorem r_iconst {z : Int} {v : Int32} (hX : mOK X own cc nL R hh tys) (hd : decode cc pc = .ok (.iconst z, 1)) (hv : Int32.ofInt z = v) (kk : mV X (pc + 1) lv (.int v :: st) ws k n) : mV X pc lv (st) ws k n := by
  obtain ⟨p, l, e, R', s, m, args, below, meth, c, Q, D, tys', A⟩ := X
  obtain ⟨hx, hb, hml, hR, hown, hts, hK, hty, hlk, hA, hst, hlt, htab⟩ := hX
  exact fun H locs ls hP hD hS hl => lv_iconst hx hb hd hv (kk H locs ls hP hD hS hl)

theorem r_bipush {z : Int} {v : Int32} (hX : mOK X own cc nL R hh tys) (hd : decode cc pc = .ok (.bipush z, 2)) (hv : (Int8.ofInt z).toInt32 = v) (kk : mV X (pc + 2) lv (.int v :: st) ws k n) : mV X pc lv (st) ws k n := by
  obtain ⟨p, l, e, R', s, m, args, below, meth, c, Q, D, tys', A⟩ := X
  obtain ⟨hx, hb, hml, hR, hown, hts, hK, hty, hlk, hA, hst, hlt, htab⟩ := hX
  exact fun H locs ls hP hD hS hl => lv_bipush hx hb hd hv (kk H locs ls hP hD hS hl)

theorem r_sipush {z : Int} {v : Int32} (hX : mOK X own cc nL R hh tys) (hd : decode cc pc = .ok (.sipush z, 3)) (hv : (Int16.ofInt z).toInt32 = v) (kk : mV X (pc + 3) lv (.int v :: st) ws k n) : mV X pc lv (st) ws k n := by
  obtain ⟨p, l, e, R', s, m, args, below, meth, c, Q, D, tys', A⟩ := X
  obtain ⟨hx, hb, hml, hR, hown, hts, hK, hty, hlk, hA, hst, hlt, htab⟩ := hX
  exact fun H locs ls hP hD hS hl => lv_sipush hx hb hd hv (kk H locs ls hP hD hS hl)

theorem r_lconst {z : Fin 2} {v : Int64} (hX : mOK X own cc nL R hh tys) (hd : decode cc pc = .ok (.lconst z, 1)) (hv : Int64.ofNat (z : Nat) = v) (kk : mV X (pc + 1) lv (.long v :: st) ws k n) : mV X pc lv (st) ws k n := by
  obtain ⟨p, l, e, R', s, m, args, below, meth, c, Q, D, tys', A⟩ := X
  obtain ⟨hx, hb, hml, hR, hown, hts, hK, hty, hlk, hA, hst, hlt, htab⟩ := hX
  exact fun H locs ls hP hD hS hl => lv_lconst hx hb hd hv (kk H locs ls hP hD hS hl)

theorem r_iload_n {j : Fin 4} {i : Nat} {x : Int32} (hX : mOK X own cc nL R hh tys) (hd : decode cc pc = .ok (.iload_n j, 1)) (hi : (j : Nat) = i) (hg : lget lv i = some (.int x)) (kk : mV X (pc + 1) lv (.int x :: st) ws k n) : mV X pc lv (st) ws k n := by
  obtain ⟨p, l, e, R', s, m, args, below, meth, c, Q, D, tys', A⟩ := X
  obtain ⟨hx, hb, hml, hR, hown, hts, hK, hty, hlk, hA, hst, hlt, htab⟩ := hX
  exact fun H locs ls hP hD hS hl => lv_iload_n hx hb hd hi (hl.2.2 i _ hg) (kk H locs ls hP hD hS hl)

theorem r_iload {i : Nat} {x : Int32} (hX : mOK X own cc nL R hh tys) (hd : decode cc pc = .ok (.iload i, 2)) (hg : lget lv i = some (.int x)) (kk : mV X (pc + 2) lv (.int x :: st) ws k n) : mV X pc lv (st) ws k n := by
  obtain ⟨p, l, e, R', s, m, args, below, meth, c, Q, D, tys', A⟩ := X
  obtain ⟨hx, hb, hml, hR, hown, hts, hK, hty, hlk, hA, hst, hlt, htab⟩ := hX
  exact fun H locs ls hP hD hS hl => lv_iload hx hb hd (hl.2.2 i _ hg) (kk H locs ls hP hD hS hl)

theorem r_lload_n {j : Fin 4} {i : Nat} {x : Int64} (hX : mOK X own cc nL R hh tys) (hd : decode cc pc = .ok (.lload_n j, 1)) (hi : (j : Nat) = i) (hg : lget lv i = some (.long x)) (kk : mV X (pc + 1) lv (.long x :: st) ws k n) : mV X pc lv (st) ws k n := by
  obtain ⟨p, l, e, R', s, m, args, below, meth, c, Q, D, tys', A⟩ := X
  obtain ⟨hx, hb, hml, hR, hown, hts, hK, hty, hlk, hA, hst, hlt, htab⟩ := hX
  exact fun H locs ls hP hD hS hl => lv_lload_n hx hb hd hi (hl.2.2 i _ hg) (kk H locs ls hP hD hS hl)

theorem r_lload {i : Nat} {x : Int64} (hX : mOK X own cc nL R hh tys) (hd : decode cc pc = .ok (.lload i, 2)) (hg : lget lv i = some (.long x)) (kk : mV X (pc + 2) lv (.long x :: st) ws k n) : mV X pc lv (st) ws k n := by
  obtain ⟨p, l, e, R', s, m, args, below, meth, c, Q, D, tys', A⟩ := X
  obtain ⟨hx, hb, hml, hR, hown, hts, hK, hty, hlk, hA, hst, hlt, htab⟩ := hX
  exact fun H locs ls hP hD hS hl => lv_lload hx hb hd (hl.2.2 i _ hg) (kk H locs ls hP hD hS hl)

theorem r_aload_n {j : Fin 4} {i : Nat} {x : Nat} (hX : mOK X own cc nL R hh tys) (hd : decode cc pc = .ok (.aload_n j, 1)) (hi : (j : Nat) = i) (hg : lget lv i = some (.ref x)) (kk : mV X (pc + 1) lv (.ref x :: st) ws k n) : mV X pc lv (st) ws k n := by
  obtain ⟨p, l, e, R', s, m, args, below, meth, c, Q, D, tys', A⟩ := X
  obtain ⟨hx, hb, hml, hR, hown, hts, hK, hty, hlk, hA, hst, hlt, htab⟩ := hX
  exact fun H locs ls hP hD hS hl => lv_aload_n hx hb hd hi (hl.2.2 i _ hg) (kk H locs ls hP hD hS hl)

theorem r_aload {i : Nat} {x : Nat} (hX : mOK X own cc nL R hh tys) (hd : decode cc pc = .ok (.aload i, 2)) (hg : lget lv i = some (.ref x)) (kk : mV X (pc + 2) lv (.ref x :: st) ws k n) : mV X pc lv (st) ws k n := by
  obtain ⟨p, l, e, R', s, m, args, below, meth, c, Q, D, tys', A⟩ := X
  obtain ⟨hx, hb, hml, hR, hown, hts, hK, hty, hlk, hA, hst, hlt, htab⟩ := hX
  exact fun H locs ls hP hD hS hl => lv_aload hx hb hd (hl.2.2 i _ hg) (kk H locs ls hP hD hS hl)

theorem r_iadd {x y : Int32} (hX : mOK X own cc nL R hh tys) (hd : decode cc pc = .ok (.iadd, 1))  (kk : mV X (pc + 1) lv (.int (x + y) :: st) ws k n) : mV X pc lv (.int y :: .int x :: st) ws k n := by
  obtain ⟨p, l, e, R', s, m, args, below, meth, c, Q, D, tys', A⟩ := X
  obtain ⟨hx, hb, hml, hR, hown, hts, hK, hty, hlk, hA, hst, hlt, htab⟩ := hX
  exact fun H locs ls hP hD hS hl => lv_iadd hx hb hd  (kk H locs ls hP hD hS hl)

theorem r_ladd {x y : Int64} (hX : mOK X own cc nL R hh tys) (hd : decode cc pc = .ok (.ladd, 1))  (kk : mV X (pc + 1) lv (.long (x + y) :: st) ws k n) : mV X pc lv (.long y :: .long x :: st) ws k n := by
  obtain ⟨p, l, e, R', s, m, args, below, meth, c, Q, D, tys', A⟩ := X
  obtain ⟨hx, hb, hml, hR, hown, hts, hK, hty, hlk, hA, hst, hlt, htab⟩ := hX
  exact fun H locs ls hP hD hS hl => lv_ladd hx hb hd  (kk H locs ls hP hD hS hl)

theorem r_isub {x y : Int32} (hX : mOK X own cc nL R hh tys) (hd : decode cc pc = .ok (.isub, 1))  (kk : mV X (pc + 1) lv (.int (x - y) :: st) ws k n) : mV X pc lv (.int y :: .int x :: st) ws k n := by
  obtain ⟨p, l, e, R', s, m, args, below, meth, c, Q, D, tys', A⟩ := X
  obtain ⟨hx, hb, hml, hR, hown, hts, hK, hty, hlk, hA, hst, hlt, htab⟩ := hX
  exact fun H locs ls hP hD hS hl => lv_isub hx hb hd  (kk H locs ls hP hD hS hl)

theorem r_lsub {x y : Int64} (hX : mOK X own cc nL R hh tys) (hd : decode cc pc = .ok (.lsub, 1))  (kk : mV X (pc + 1) lv (.long (x - y) :: st) ws k n) : mV X pc lv (.long y :: .long x :: st) ws k n := by
  obtain ⟨p, l, e, R', s, m, args, below, meth, c, Q, D, tys', A⟩ := X
  obtain ⟨hx, hb, hml, hR, hown, hts, hK, hty, hlk, hA, hst, hlt, htab⟩ := hX
  exact fun H locs ls hP hD hS hl => lv_lsub hx hb hd  (kk H locs ls hP hD hS hl)

theorem r_imul {x y : Int32} (hX : mOK X own cc nL R hh tys) (hd : decode cc pc = .ok (.imul, 1))  (kk : mV X (pc + 1) lv (.int (x * y) :: st) ws k n) : mV X pc lv (.int y :: .int x :: st) ws k n := by
  obtain ⟨p, l, e, R', s, m, args, below, meth, c, Q, D, tys', A⟩ := X
  obtain ⟨hx, hb, hml, hR, hown, hts, hK, hty, hlk, hA, hst, hlt, htab⟩ := hX
  exact fun H locs ls hP hD hS hl => lv_imul hx hb hd  (kk H locs ls hP hD hS hl)

theorem r_lmul {x y : Int64} (hX : mOK X own cc nL R hh tys) (hd : decode cc pc = .ok (.lmul, 1))  (kk : mV X (pc + 1) lv (.long (x * y) :: st) ws k n) : mV X pc lv (.long y :: .long x :: st) ws k n := by
  obtain ⟨p, l, e, R', s, m, args, below, meth, c, Q, D, tys', A⟩ := X
  obtain ⟨hx, hb, hml, hR, hown, hts, hK, hty, hlk, hA, hst, hlt, htab⟩ := hX
  exact fun H locs ls hP hD hS hl => lv_lmul hx hb hd  (kk H locs ls hP hD hS hl)

theorem r_idiv {x y : Int32} (hX : mOK X own cc nL R hh tys) (hd : decode cc pc = .ok (.idiv, 1)) (hne : ¬ y = 0) (kk : mV X (pc + 1) lv (.int (x / y) :: st) ws k n) : mV X pc lv (.int y :: .int x :: st) ws k n := by
  obtain ⟨p, l, e, R', s, m, args, below, meth, c, Q, D, tys', A⟩ := X
  obtain ⟨hx, hb, hml, hR, hown, hts, hK, hty, hlk, hA, hst, hlt, htab⟩ := hX
  exact fun H locs ls hP hD hS hl => lv_idiv hx hb hd hne (kk H locs ls hP hD hS hl)

theorem r_ldiv {x y : Int64} (hX : mOK X own cc nL R hh tys) (hd : decode cc pc = .ok (.ldiv, 1)) (hne : ¬ y = 0) (kk : mV X (pc + 1) lv (.long (x / y) :: st) ws k n) : mV X pc lv (.long y :: .long x :: st) ws k n := by
  obtain ⟨p, l, e, R', s, m, args, below, meth, c, Q, D, tys', A⟩ := X
  obtain ⟨hx, hb, hml, hR, hown, hts, hK, hty, hlk, hA, hst, hlt, htab⟩ := hX
  exact fun H locs ls hP hD hS hl => lv_ldiv hx hb hd hne (kk H locs ls hP hD hS hl)

theorem r_irem {x y : Int32} (hX : mOK X own cc nL R hh tys) (hd : decode cc pc = .ok (.irem, 1)) (hne : ¬ y = 0) (kk : mV X (pc + 1) lv (.int (x - x / y * y) :: st) ws k n) : mV X pc lv (.int y :: .int x :: st) ws k n := by
  obtain ⟨p, l, e, R', s, m, args, below, meth, c, Q, D, tys', A⟩ := X
  obtain ⟨hx, hb, hml, hR, hown, hts, hK, hty, hlk, hA, hst, hlt, htab⟩ := hX
  exact fun H locs ls hP hD hS hl => lv_irem hx hb hd hne (kk H locs ls hP hD hS hl)

theorem r_lrem {x y : Int64} (hX : mOK X own cc nL R hh tys) (hd : decode cc pc = .ok (.lrem, 1)) (hne : ¬ y = 0) (kk : mV X (pc + 1) lv (.long (x - x / y * y) :: st) ws k n) : mV X pc lv (.long y :: .long x :: st) ws k n := by
  obtain ⟨p, l, e, R', s, m, args, below, meth, c, Q, D, tys', A⟩ := X
  obtain ⟨hx, hb, hml, hR, hown, hts, hK, hty, hlk, hA, hst, hlt, htab⟩ := hX
  exact fun H locs ls hP hD hS hl => lv_lrem hx hb hd hne (kk H locs ls hP hD hS hl)

theorem r_iand {x y : Int32} (hX : mOK X own cc nL R hh tys) (hd : decode cc pc = .ok (.iand, 1))  (kk : mV X (pc + 1) lv (.int (x &&& y) :: st) ws k n) : mV X pc lv (.int y :: .int x :: st) ws k n := by
  obtain ⟨p, l, e, R', s, m, args, below, meth, c, Q, D, tys', A⟩ := X
  obtain ⟨hx, hb, hml, hR, hown, hts, hK, hty, hlk, hA, hst, hlt, htab⟩ := hX
  exact fun H locs ls hP hD hS hl => lv_iand hx hb hd  (kk H locs ls hP hD hS hl)

theorem r_ineg {x : Int32} (hX : mOK X own cc nL R hh tys) (hd : decode cc pc = .ok (.ineg, 1))  (kk : mV X (pc + 1) lv (.int (-x) :: st) ws k n) : mV X pc lv (.int x :: st) ws k n := by
  obtain ⟨p, l, e, R', s, m, args, below, meth, c, Q, D, tys', A⟩ := X
  obtain ⟨hx, hb, hml, hR, hown, hts, hK, hty, hlk, hA, hst, hlt, htab⟩ := hX
  exact fun H locs ls hP hD hS hl => lv_ineg hx hb hd  (kk H locs ls hP hD hS hl)

theorem r_lneg {x : Int64} (hX : mOK X own cc nL R hh tys) (hd : decode cc pc = .ok (.lneg, 1))  (kk : mV X (pc + 1) lv (.long (-x) :: st) ws k n) : mV X pc lv (.long x :: st) ws k n := by
  obtain ⟨p, l, e, R', s, m, args, below, meth, c, Q, D, tys', A⟩ := X
  obtain ⟨hx, hb, hml, hR, hown, hts, hK, hty, hlk, hA, hst, hlt, htab⟩ := hX
  exact fun H locs ls hP hD hS hl => lv_lneg hx hb hd  (kk H locs ls hP hD hS hl)

theorem r_i2l {x : Int32} (hX : mOK X own cc nL R hh tys) (hd : decode cc pc = .ok (.i2l, 1))  (kk : mV X (pc + 1) lv (.long x.toInt64 :: st) ws k n) : mV X pc lv (.int x :: st) ws k n := by
  obtain ⟨p, l, e, R', s, m, args, below, meth, c, Q, D, tys', A⟩ := X
  obtain ⟨hx, hb, hml, hR, hown, hts, hK, hty, hlk, hA, hst, hlt, htab⟩ := hX
  exact fun H locs ls hP hD hS hl => lv_i2l hx hb hd rfl (kk H locs ls hP hD hS hl)

theorem r_l2i {x : Int64} (hX : mOK X own cc nL R hh tys) (hd : decode cc pc = .ok (.l2i, 1))  (kk : mV X (pc + 1) lv (.int x.toInt32 :: st) ws k n) : mV X pc lv (.long x :: st) ws k n := by
  obtain ⟨p, l, e, R', s, m, args, below, meth, c, Q, D, tys', A⟩ := X
  obtain ⟨hx, hb, hml, hR, hown, hts, hK, hty, hlk, hA, hst, hlt, htab⟩ := hX
  exact fun H locs ls hP hD hS hl => lv_l2i hx hb hd rfl (kk H locs ls hP hD hS hl)

theorem r_lcmp {x y : Int64} (hX : mOK X own cc nL R hh tys) (hd : decode cc pc = .ok (.lcmp, 1))  (kk : mV X (pc + 1) lv (.int (lg_cmp x y) :: st) ws k n) : mV X pc lv (.long y :: .long x :: st) ws k n := by
  obtain ⟨p, l, e, R', s, m, args, below, meth, c, Q, D, tys', A⟩ := X
  obtain ⟨hx, hb, hml, hR, hown, hts, hK, hty, hlk, hA, hst, hlt, htab⟩ := hX
  exact fun H locs ls hP hD hS hl => W.lcmp hx hb hd  (kk H locs ls hP hD hS hl)

theorem r_dup {v : Value} (hX : mOK X own cc nL R hh tys) (hd : decode cc pc = .ok (.dup, 1)) (hc : v.category = 1) (kk : mV X (pc + 1) lv (v :: v :: st) ws k n) : mV X pc lv (v :: st) ws k n := by
  obtain ⟨p, l, e, R', s, m, args, below, meth, c, Q, D, tys', A⟩ := X
  obtain ⟨hx, hb, hml, hR, hown, hts, hK, hty, hlk, hA, hst, hlt, htab⟩ := hX
  exact fun H locs ls hP hD hS hl => lv_dup hx hb hd hc (kk H locs ls hP hD hS hl)

theorem r_pop {v : Value} (hX : mOK X own cc nL R hh tys) (hd : decode cc pc = .ok (.pop, 1)) (hc : v.category = 1) (kk : mV X (pc + 1) lv (st) ws k n) : mV X pc lv (v :: st) ws k n := by
  obtain ⟨p, l, e, R', s, m, args, below, meth, c, Q, D, tys', A⟩ := X
  obtain ⟨hx, hb, hml, hR, hown, hts, hK, hty, hlk, hA, hst, hlt, htab⟩ := hX
  exact fun H locs ls hP hD hS hl => lv_pop hx hb hd hc (kk H locs ls hP hD hS hl)

theorem r_pop2 {v : Value} (hX : mOK X own cc nL R hh tys) (hd : decode cc pc = .ok (.pop2, 1)) (hc : v.category = 2) (kk : mV X (pc + 1) lv (st) ws k n) : mV X pc lv (v :: st) ws k n := by
  obtain ⟨p, l, e, R', s, m, args, below, meth, c, Q, D, tys', A⟩ := X
  obtain ⟨hx, hb, hml, hR, hown, hts, hK, hty, hlk, hA, hst, hlt, htab⟩ := hX
  exact fun H locs ls hP hD hS hl => lv_pop2_2 hx hb hd hc (kk H locs ls hP hD hS hl)

theorem r_if_eq {x : Int32} {off : Int} {tgt : Nat} (hX : mOK X own cc nL R hh tys) (hd : decode cc pc = .ok (.ifCond .eq off, 3)) (ht : (pc : Int) + off = (tgt : Int)) (kt : x = 0 → mV X tgt lv st ws k n) (kf : ¬ (x = 0) → mV X (pc + 3) lv st ws k n) : mV X pc lv (.int x :: st) ws k n := by
  obtain ⟨p, l, e, R', s, m, args, below, meth, c, Q, D, tys', A⟩ := X
  obtain ⟨hx, hb, hml, hR, hown, hts, hK, hty, hlk, hA, hst, hlt, htab⟩ := hX
  exact fun H locs ls hP hD hS hl => lv_if_eq hx hb hd ht (fun q => kt (by simpa using q) H locs ls hP hD hS hl) (fun q => kf (by simpa using q) H locs ls hP hD hS hl)

theorem r_if_ne {x : Int32} {off : Int} {tgt : Nat} (hX : mOK X own cc nL R hh tys) (hd : decode cc pc = .ok (.ifCond .ne off, 3)) (ht : (pc : Int) + off = (tgt : Int)) (kt : ¬ x = 0 → mV X tgt lv st ws k n) (kf : ¬ (¬ x = 0) → mV X (pc + 3) lv st ws k n) : mV X pc lv (.int x :: st) ws k n := by
  obtain ⟨p, l, e, R', s, m, args, below, meth, c, Q, D, tys', A⟩ := X
  obtain ⟨hx, hb, hml, hR, hown, hts, hK, hty, hlk, hA, hst, hlt, htab⟩ := hX
  exact fun H locs ls hP hD hS hl => lv_if_ne hx hb hd ht (fun q => kt (by simpa using q) H locs ls hP hD hS hl) (fun q => kf (by simpa using q) H locs ls hP hD hS hl)

theorem r_if_lt {x : Int32} {off : Int} {tgt : Nat} (hX : mOK X own cc nL R hh tys) (hd : decode cc pc = .ok (.ifCond .lt off, 3)) (ht : (pc : Int) + off = (tgt : Int)) (kt : x < 0 → mV X tgt lv st ws k n) (kf : ¬ (x < 0) → mV X (pc + 3) lv st ws k n) : mV X pc lv (.int x :: st) ws k n := by
  obtain ⟨p, l, e, R', s, m, args, below, meth, c, Q, D, tys', A⟩ := X
  obtain ⟨hx, hb, hml, hR, hown, hts, hK, hty, hlk, hA, hst, hlt, htab⟩ := hX
  exact fun H locs ls hP hD hS hl => lv_if_lt hx hb hd ht (fun q => kt (by simpa using q) H locs ls hP hD hS hl) (fun q => kf (by simpa using q) H locs ls hP hD hS hl)

theorem r_if_ge {x : Int32} {off : Int} {tgt : Nat} (hX : mOK X own cc nL R hh tys) (hd : decode cc pc = .ok (.ifCond .ge off, 3)) (ht : (pc : Int) + off = (tgt : Int)) (kt : 0 ≤ x → mV X tgt lv st ws k n) (kf : ¬ (0 ≤ x) → mV X (pc + 3) lv st ws k n) : mV X pc lv (.int x :: st) ws k n := by
  obtain ⟨p, l, e, R', s, m, args, below, meth, c, Q, D, tys', A⟩ := X
  obtain ⟨hx, hb, hml, hR, hown, hts, hK, hty, hlk, hA, hst, hlt, htab⟩ := hX
  exact fun H locs ls hP hD hS hl => lv_if_ge hx hb hd ht (fun q => kt (by simpa using q) H locs ls hP hD hS hl) (fun q => kf (by simpa using q) H locs ls hP hD hS hl)

theorem r_if_gt {x : Int32} {off : Int} {tgt : Nat} (hX : mOK X own cc nL R hh tys) (hd : decode cc pc = .ok (.ifCond .gt off, 3)) (ht : (pc : Int) + off = (tgt : Int)) (kt : 0 < x → mV X tgt lv st ws k n) (kf : ¬ (0 < x) → mV X (pc + 3) lv st ws k n) : mV X pc lv (.int x :: st) ws k n := by
  obtain ⟨p, l, e, R', s, m, args, below, meth, c, Q, D, tys', A⟩ := X
  obtain ⟨hx, hb, hml, hR, hown, hts, hK, hty, hlk, hA, hst, hlt, htab⟩ := hX
  exact fun H locs ls hP hD hS hl => lv_if_gt hx hb hd ht (fun q => kt (by simpa using q) H locs ls hP hD hS hl) (fun q => kf (by simpa using q) H locs ls hP hD hS hl)

theorem r_if_le {x : Int32} {off : Int} {tgt : Nat} (hX : mOK X own cc nL R hh tys) (hd : decode cc pc = .ok (.ifCond .le off, 3)) (ht : (pc : Int) + off = (tgt : Int)) (kt : x ≤ 0 → mV X tgt lv st ws k n) (kf : ¬ (x ≤ 0) → mV X (pc + 3) lv st ws k n) : mV X pc lv (.int x :: st) ws k n := by
  obtain ⟨p, l, e, R', s, m, args, below, meth, c, Q, D, tys', A⟩ := X
  obtain ⟨hx, hb, hml, hR, hown, hts, hK, hty, hlk, hA, hst, hlt, htab⟩ := hX
  exact fun H locs ls hP hD hS hl => lv_if_le hx hb hd ht (fun q => kt (by simpa using q) H locs ls hP hD hS hl) (fun q => kf (by simpa using q) H locs ls hP hD hS hl)

theorem r_icmp_eq {x y : Int32} {off : Int} {tgt : Nat} (hX : mOK X own cc nL R hh tys) (hd : decode cc pc = .ok (.if_icmp .eq off, 3)) (ht : (pc : Int) + off = (tgt : Int)) (kt : x = y → mV X tgt lv st ws k n) (kf : ¬ (x = y) → mV X (pc + 3) lv st ws k n) : mV X pc lv (.int y :: .int x :: st) ws k n := by
  obtain ⟨p, l, e, R', s, m, args, below, meth, c, Q, D, tys', A⟩ := X
  obtain ⟨hx, hb, hml, hR, hown, hts, hK, hty, hlk, hA, hst, hlt, htab⟩ := hX
  exact fun H locs ls hP hD hS hl => lv_icmp_eq hx hb hd ht (fun q => kt (by simpa using q) H locs ls hP hD hS hl) (fun q => kf (by simpa using q) H locs ls hP hD hS hl)

theorem r_icmp_ne {x y : Int32} {off : Int} {tgt : Nat} (hX : mOK X own cc nL R hh tys) (hd : decode cc pc = .ok (.if_icmp .ne off, 3)) (ht : (pc : Int) + off = (tgt : Int)) (kt : ¬ x = y → mV X tgt lv st ws k n) (kf : ¬ (¬ x = y) → mV X (pc + 3) lv st ws k n) : mV X pc lv (.int y :: .int x :: st) ws k n := by
  obtain ⟨p, l, e, R', s, m, args, below, meth, c, Q, D, tys', A⟩ := X
  obtain ⟨hx, hb, hml, hR, hown, hts, hK, hty, hlk, hA, hst, hlt, htab⟩ := hX
  exact fun H locs ls hP hD hS hl => lv_icmp_ne hx hb hd ht (fun q => kt (by simpa using q) H locs ls hP hD hS hl) (fun q => kf (by simpa using q) H locs ls hP hD hS hl)

theorem r_icmp_lt {x y : Int32} {off : Int} {tgt : Nat} (hX : mOK X own cc nL R hh tys) (hd : decode cc pc = .ok (.if_icmp .lt off, 3)) (ht : (pc : Int) + off = (tgt : Int)) (kt : x < y → mV X tgt lv st ws k n) (kf : ¬ (x < y) → mV X (pc + 3) lv st ws k n) : mV X pc lv (.int y :: .int x :: st) ws k n := by
  obtain ⟨p, l, e, R', s, m, args, below, meth, c, Q, D, tys', A⟩ := X
  obtain ⟨hx, hb, hml, hR, hown, hts, hK, hty, hlk, hA, hst, hlt, htab⟩ := hX
  exact fun H locs ls hP hD hS hl => lv_icmp_lt hx hb hd ht (fun q => kt (by simpa using q) H locs ls hP hD hS hl) (fun q => kf (by simpa using q) H locs ls hP hD hS hl)

theorem r_icmp_ge {x y : Int32} {off : Int} {tgt : Nat} (hX : mOK X own cc nL R hh tys) (hd : decode cc pc = .ok (.if_icmp .ge off, 3)) (ht : (pc : Int) + off = (tgt : Int)) (kt : y ≤ x → mV X tgt lv st ws k n) (kf : ¬ (y ≤ x) → mV X (pc + 3) lv st ws k n) : mV X pc lv (.int y :: .int x :: st) ws k n := by
  obtain ⟨p, l, e, R', s, m, args, below, meth, c, Q, D, tys', A⟩ := X
  obtain ⟨hx, hb, hml, hR, hown, hts, hK, hty, hlk, hA, hst, hlt, htab⟩ := hX
  exact fun H locs ls hP hD hS hl => lv_icmp_ge hx hb hd ht (fun q => kt (by simpa using q) H locs ls hP hD hS hl) (fun q => kf (by simpa using q) H locs ls hP hD hS hl)

theorem r_icmp_gt {x y : Int32} {off : Int} {tgt : Nat} (hX : mOK X own cc nL R hh tys) (hd : decode cc pc = .ok (.if_icmp .gt off, 3)) (ht : (pc : Int) + off = (tgt : Int)) (kt : y < x → mV X tgt lv st ws k n) (kf : ¬ (y < x) → mV X (pc + 3) lv st ws k n) : mV X pc lv (.int y :: .int x :: st) ws k n := by
  obtain ⟨p, l, e, R', s, m, args, below, meth, c, Q, D, tys', A⟩ := X
  obtain ⟨hx, hb, hml, hR, hown, hts, hK, hty, hlk, hA, hst, hlt, htab⟩ := hX
  exact fun H locs ls hP hD hS hl => lv_icmp_gt hx hb hd ht (fun q => kt (by simpa using q) H locs ls hP hD hS hl) (fun q => kf (by simpa using q) H locs ls hP hD hS hl)

theorem r_goto {off : Int} {tgt : Nat} (hX : mOK X own cc nL R hh tys) (hd : decode cc pc = .ok (.goto off, 3)) (ht : (pc : Int) + off = (tgt : Int)) (kk : mV X tgt lv st ws k n) : mV X pc lv st ws k n := by
  obtain ⟨p, l, e, R', s, m, args, below, meth, c, Q, D, tys', A⟩ := X
  obtain ⟨hx, hb, hml, hR, hown, hts, hK, hty, hlk, hA, hst, hlt, htab⟩ := hX
  exact fun H locs ls hP hD hS hl => lv_goto hx hb hd ht (kk H locs ls hP hD hS hl)

theorem r_tableIn {x : Int32} {dflt lo hi off : Int} {offs : Array Int} {len tgt : Nat} (hX : mOK X own cc nL R hh tys) (hd : decode cc pc = .ok (.tableswitch dflt lo hi offs, len)) (h1 : ¬ x.toInt < lo) (h2 : ¬ hi < x.toInt) (ho : offs[(x.toInt - lo).toNat]? = some off) (ht : (pc : Int) + off = (tgt : Int)) (kk : mV X tgt lv st ws k n) : mV X pc lv (.int x :: st) ws k n := by
  obtain ⟨p, l, e, R', s, m, args, below, meth, c, Q, D, tys', A⟩ := X
  obtain ⟨hx, hb, hml, hR, hown, hts, hK, hty, hlk, hA, hst, hlt, htab⟩ := hX
  exact fun H locs ls hP hD hS hl => lv_tableIn hx hb hd h1 h2 ho ht (kk H locs ls hP hD hS hl)

theorem r_tableOut {x : Int32} {dflt lo hi : Int} {offs : Array Int} {len tgt : Nat} (hX : mOK X own cc nL R hh tys) (hd : decode cc pc = .ok (.tableswitch dflt lo hi offs, len)) (h : x.toInt < lo ∨ hi < x.toInt) (ht : (pc : Int) + dflt = (tgt : Int)) (kk : mV X tgt lv st ws k n) : mV X pc lv (.int x :: st) ws k n := by
  obtain ⟨p, l, e, R', s, m, args, below, meth, c, Q, D, tys', A⟩ := X
  obtain ⟨hx, hb, hml, hR, hown, hts, hK, hty, hlk, hA, hst, hlt, htab⟩ := hX
  exact fun H locs ls hP hD hS hl => lv_tableOut hx hb hd h ht (kk H locs ls hP hD hS hl)

theorem r_ldc {v : Int32} {idx : Nat} (hX : mOK X own cc nL R hh tys) (hc : Cond.constant own idx v ∈ mW) (hd : decode cc pc = .ok (.ldc idx, 2)) (kk : mV X (pc + 2) lv (.int v :: st) ws k n) : mV X pc lv st ws k n := by
  obtain ⟨p, l, e, R', s, m, args, below, meth, c, Q, D, tys', A⟩ := X
  obtain ⟨hx, hb, hml, hR, hown, hts, hK, hty, hlk, hA, hst, hlt, htab⟩ := hX
  exact fun H locs ls hP hD hS hl => lv_ldc hx hb hown (hts _ hc) hd (kk H locs ls hP hD hS hl)

theorem r_ldc2 {v : Int64} {idx : Nat} (hX : mOK X own cc nL R hh tys) (hc : Cond.constantLong own idx v ∈ mW) (hd : decode cc pc = .ok (.ldc2_w idx, 3)) (kk : mV X (pc + 3) lv (.long v :: st) ws k n) : mV X pc lv st ws k n := by
  obtain ⟨p, l, e, R', s, m, args, below, meth, c, Q, D, tys', A⟩ := X
  obtain ⟨hx, hb, hml, hR, hown, hts, hK, hty, hlk, hA, hst, hlt, htab⟩ := hX
  exact fun H locs ls hP hD hS hl => lv_ldc2 hx hb hown (hts _ hc) hd (kk H locs ls hP hD hS hl)

theorem r_istore_n {j : Fin 4} {i : Nat} {x : Int32} (hX : mOK X own cc nL R hh tys) (hd : decode cc pc = .ok (.istore_n j, 1)) (hi : (j : Nat) = i) (hn : i < nL) (hp : lgp lv i = true) (kk : mV X (pc + 1) ((i, some (.int x)) :: lv) st ws k n) : mV X pc lv (.int x :: st) ws k n := by
  obtain ⟨p, l, e, R', s, m, args, below, meth, c, Q, D, tys', A⟩ := X
  obtain ⟨hx, hb, hml, hR, hown, hts, hK, hty, hlk, hA, hst, hlt, htab⟩ := hX
  subst hi
  intro H locs ls hP hD hS hl
  obtain ⟨ls', e', h'⟩ := hl.st1 (v := .int x) (by rw [hml]; exact hn) rfl hp
  intro T hT Y
  obtain ⟨t, a, b⟩ := kk H locs ls' hP hD hS h' T hT Y
  refine ⟨t, ?_, b⟩
  jvm_step Y.here [Y.here.top, ↓top_set Y.here.top, hx, hb, hd, e']
  exact a

theorem r_istore {i : Nat} {x : Int32} (hX : mOK X own cc nL R hh tys) (hd : decode cc pc = .ok (.istore i, 2))  (hn : i < nL) (hp : lgp lv i = true) (kk : mV X (pc + 2) ((i, some (.int x)) :: lv) st ws k n) : mV X pc lv (.int x :: st) ws k n := by
  obtain ⟨p, l, e, R', s, m, args, below, meth, c, Q, D, tys', A⟩ := X
  obtain ⟨hx, hb, hml, hR, hown, hts, hK, hty, hlk, hA, hst, hlt, htab⟩ := hX
  intro H locs ls hP hD hS hl
  obtain ⟨ls', e', h'⟩ := hl.st1 (v := .int x) (by rw [hml]; exact hn) rfl hp
  intro T hT Y
  obtain ⟨t, a, b⟩ := kk H locs ls' hP hD hS h' T hT Y
  refine ⟨t, ?_, b⟩
  jvm_step Y.here [Y.here.top, ↓top_set Y.here.top, hx, hb, hd, e']
  exact a

theorem r_astore_n {j : Fin 4} {i : Nat} {x : Nat} (hX : mOK X own cc nL R hh tys) (hd : decode cc pc = .ok (.astore_n j, 1)) (hi : (j : Nat) = i) (hn : i < nL) (hp : lgp lv i = true) (kk : mV X (pc + 1) ((i, some (.ref x)) :: lv) st ws k n) : mV X pc lv (.ref x :: st) ws k n := by
  obtain ⟨p, l, e, R', s, m, args, below, meth, c, Q, D, tys', A⟩ := X
  obtain ⟨hx, hb, hml, hR, hown, hts, hK, hty, hlk, hA, hst, hlt, htab⟩ := hX
  subst hi
  intro H locs ls hP hD hS hl
  obtain ⟨ls', e', h'⟩ := hl.st1 (v := .ref x) (by rw [hml]; exact hn) rfl hp
  intro T hT Y
  obtain ⟨t, a, b⟩ := kk H locs ls' hP hD hS h' T hT Y
  refine ⟨t, ?_, b⟩
  jvm_step Y.here [Y.here.top, ↓top_set Y.here.top, hx, hb, hd, e', Value.isRef]
  exact a

theorem r_astore {i : Nat} {x : Nat} (hX : mOK X own cc nL R hh tys) (hd : decode cc pc = .ok (.astore i, 2))  (hn : i < nL) (hp : lgp lv i = true) (kk : mV X (pc + 2) ((i, some (.ref x)) :: lv) st ws k n) : mV X pc lv (.ref x :: st) ws k n := by
  obtain ⟨p, l, e, R', s, m, args, below, meth, c, Q, D, tys', A⟩ := X
  obtain ⟨hx, hb, hml, hR, hown, hts, hK, hty, hlk, hA, hst, hlt, htab⟩ := hX
  intro H locs ls hP hD hS hl
  obtain ⟨ls', e', h'⟩ := hl.st1 (v := .ref x) (by rw [hml]; exact hn) rfl hp
  intro T hT Y
  obtain ⟨t, a, b⟩ := kk H locs ls' hP hD hS h' T hT Y
  refine ⟨t, ?_, b⟩
  jvm_step Y.here [Y.here.top, ↓top_set Y.here.top, hx, hb, hd, e', Value.isRef]
  exact a

theorem r_lstore_n {j : Fin 4} {i : Nat} {x : Int64} (hX : mOK X own cc nL R hh tys) (hd : decode cc pc = .ok (.lstore_n j, 1)) (hi : (j : Nat) = i) (hn : i + 1 < nL) (hp : lgp lv i = true) (kk : mV X (pc + 1) ((i, some (.long x)) :: (i + 1, none) :: lv) st ws k n) : mV X pc lv (.long x :: st) ws k n := by
  obtain ⟨p, l, e, R', s, m, args, below, meth, c, Q, D, tys', A⟩ := X
  obtain ⟨hx, hb, hml, hR, hown, hts, hK, hty, hlk, hA, hst, hlt, htab⟩ := hX
  subst hi
  intro H locs ls hP hD hS hl
  obtain ⟨ls', e', h'⟩ := hl.st2 (v := .long x) (by rw [hml]; exact hn) rfl hp
  intro T hT Y
  obtain ⟨t, a, b⟩ := kk H locs ls' hP hD hS h' T hT Y
  refine ⟨t, ?_, b⟩
  jvm_step Y.here [Y.here.top, ↓top_set Y.here.top, hx, hb, hd, e']
  exact a

theorem r_lstore {i : Nat} {x : Int64} (hX : mOK X own cc nL R hh tys) (hd : decode cc pc = .ok (.lstore i, 2))  (hn : i + 1 < nL) (hp : lgp lv i = true) (kk : mV X (pc + 2) ((i, some (.long x)) :: (i + 1, none) :: lv) st ws k n) : mV X pc lv (.long x :: st) ws k n := by
  obtain ⟨p, l, e, R', s, m, args, below, meth, c, Q, D, tys', A⟩ := X
  obtain ⟨hx, hb, hml, hR, hown, hts, hK, hty, hlk, hA, hst, hlt, htab⟩ := hX
  intro H locs ls hP hD hS hl
  obtain ⟨ls', e', h'⟩ := hl.st2 (v := .long x) (by rw [hml]; exact hn) rfl hp
  intro T hT Y
  obtain ⟨t, a, b⟩ := kk H locs ls' hP hD hS h' T hT Y
  refine ⟨t, ?_, b⟩
  jvm_step Y.here [Y.here.top, ↓top_set Y.here.top, hx, hb, hd, e']
  exact a

theorem r_iinc {i : Nat} {z : Int} {x : Int32} (hX : mOK X own cc nL R hh tys) (hd : decode cc pc = .ok (.iinc i z, 3)) (hg : lget lv i = some (.int x)) (hn : i < nL) (hp : lgp lv i = true) (kk : mV X (pc + 3) ((i, some (.int (x + Int32.ofInt z))) :: lv) st ws k n) : mV X pc lv st ws k n := by
  obtain ⟨p, l, e, R', s, m, args, below, meth, c, Q, D, tys', A⟩ := X
  obtain ⟨hx, hb, hml, hR, hown, hts, hK, hty, hlk, hA, hst, hlt, htab⟩ := hX
  intro H locs ls hP hD hS hl
  obtain ⟨ls', e', h'⟩ := hl.st1 (v := .int (x + Int32.ofInt z)) (by rw [hml]; exact hn) rfl hp
  have hgg := hl.2.2 i _ hg
  intro T hT Y
  obtain ⟨t, a, b⟩ := kk H locs ls' hP hD hS h' T hT Y
  refine ⟨t, ?_, b⟩
  jvm_step Y.here [Y.here.top, ↓top_set Y.here.top, hx, hb, hd, hgg, e']
  exact a

/-- a field as an instruction of own names it -/
def mFd (own : String) (idx ci kf : Nat) (C : String) (T : u_T) (N : Nat) (ty : FieldType) : Prop :=
  (∀ w ∈ u_ws C T N, w ∈ mW) ∧ (∃ ty0 : Nat → FieldType, ∀ k, k < N → parseFieldDescriptor (T k).2.2.1 = some (ty0 k)) ∧ (∀ a, a < N → ∀ b, b < N → a ≠ b → (T a).2.1 ≠ (T b).2.1) ∧ vwCl[ci]? = some (C, T, N) ∧ kf < N ∧ Cond.fieldLink own idx (T kf).1 (T kf).2.1 (T kf).2.2.1 ∈ mW ∧ parseFieldDescriptor (T kf).2.2.1 = some ty
def mFn (own host : String) (idx ci kf : Nat) (C : String) (T : u_T) (N : Nat) (ty : FieldType) : Prop :=
  (∀ w ∈ u_ws C T N, w ∈ mW) ∧ (∃ ty0 : Nat → FieldType, ∀ k, k < N → parseFieldDescriptor (T k).2.2.1 = some (ty0 k)) ∧ (∀ a, a < N → ∀ b, b < N → a ≠ b → (T a).2.1 ≠ (T b).2.1) ∧ vwCl[ci]? = some (C, T, N) ∧ kf < N ∧ Cond.fieldLinkNest own idx (T kf).1 (T kf).2.1 (T kf).2.2.1 host ∈ mW ∧ parseFieldDescriptor (T kf).2.2.1 = some ty

theorem r_get  {idx ci kf N a : Nat} {C : String} {T : u_T} {ty : FieldType} {fs : List Value} {v : Value} (hX : mOK X own cc nL R hh tys) (hf : mFd own idx ci kf C T N ty) (q0 : Nat) (he : ws[q0]? = some (a, .inr (ci, fs))) (hv : fs[kf]? = some v) (hd : decode cc pc = .ok (.getfield idx, 3)) (kk : mV X (pc + 3) lv (v :: st) ws k n) : mV X pc lv (.ref a :: st) ws k n := by
  obtain ⟨p, l, e, R', s, m, args, below, meth, c, Q, D, tys', A⟩ := X
  obtain ⟨hx, hb, hml, hR, hown, hts, hK, hty, hlk, hA, hst, hlt, htab⟩ := hX
  obtain ⟨h1, -, -, h4, h5, h6, -⟩ := hf
  exact fun H locs ls hP hD hS hl => va_get (D := D) (ci := ci) (v := v) (C := C) (T := T) (N := N) hx hb hts h1 hown hK hP q0 he h4 kf h5 (hts _ h6) (fun _ h9 => h9) hv hd (kk H locs ls hP hD hS hl)

theorem r_put  {idx ci kf N a : Nat} {C : String} {T : u_T} {ty : FieldType} {fs : List Value} {v : Value} (hX : mOK X own cc nL R hh tys) (hf : mFd own idx ci kf C T N ty) (q0 : Nat) (he : ws[q0]? = some (a, .inr (ci, fs))) (hfin : (T kf).2.2.2 = false) (hn : narrow ty v = v) (hfit : fits ty v = true) (hl0 : kf < fs.length) (hd : decode cc pc = .ok (.putfield idx, 3)) (kk : mV X (pc + 3) lv st (ws.set q0 (a, .inr (ci, fs.set kf v))) k n) : mV X pc lv (v :: .ref a :: st) ws k n := by
  obtain ⟨p, l, e, R', s, m, args, below, meth, c, Q, D, tys', A⟩ := X
  obtain ⟨hx, hb, hml, hR, hown, hts, hK, hty, hlk, hA, hst, hlt, htab⟩ := hX
  obtain ⟨h1, ⟨ty0, h2⟩, h3, h4, h5, h6, h7⟩ := hf
  exact fun H locs ls hP hD hS hl => va_put (D := D) (ci := ci) (v := v) (ty := ty) (C := C) (T := T) (N := N) hx hb hts h1 ty0 h2 h3 hown hK hP hD hS q0 he h4 kf h5 (hts _ h6) (fun _ h9 => h9) hfin h7 hn hfit hl0 hd (fun H1 locs1 hP1 hD1 hS1 => kk H1 locs1 ls hP1 hD1 hS1 hl)

theorem r_getN {host : String} {idx ci kf N a : Nat} {C : String} {T : u_T} {ty : FieldType} {fs : List Value} {v : Value} (hX : mOK X own cc nL R hh tys) (hf : mFn own host idx ci kf C T N ty) (q0 : Nat) (he : ws[q0]? = some (a, .inr (ci, fs))) (hv : fs[kf]? = some v) (hd : decode cc pc = .ok (.getfield idx, 3)) (kk : mV X (pc + 3) lv (v :: st) ws k n) : mV X pc lv (.ref a :: st) ws k n := by
  obtain ⟨p, l, e, R', s, m, args, below, meth, c, Q, D, tys', A⟩ := X
  obtain ⟨hx, hb, hml, hR, hown, hts, hK, hty, hlk, hA, hst, hlt, htab⟩ := hX
  obtain ⟨h1, -, -, h4, h5, h6, -⟩ := hf
  exact fun H locs ls hP hD hS hl => va_getN (D := D) (ci := ci) (v := v) (C := C) (T := T) (N := N) hx hb hts h1 hown hK hP q0 he h4 kf h5 (hts _ h6) (fun _ h9 => h9) hv hd (kk H locs ls hP hD hS hl)

theorem r_putN {host : String} {idx ci kf N a : Nat} {C : String} {T : u_T} {ty : FieldType} {fs : List Value} {v : Value} (hX : mOK X own cc nL R hh tys) (hf : mFn own host idx ci kf C T N ty) (q0 : Nat) (he : ws[q0]? = some (a, .inr (ci, fs))) (hfin : (T kf).2.2.2 = false) (hn : narrow ty v = v) (hfit : fits ty v = true) (hl0 : kf < fs.length) (hd : decode cc pc = .ok (.putfield idx, 3)) (kk : mV X (pc + 3) lv st (ws.set q0 (a, .inr (ci, fs.set kf v))) k n) : mV X pc lv (v :: .ref a :: st) ws k n := by
  obtain ⟨p, l, e, R', s, m, args, below, meth, c, Q, D, tys', A⟩ := X
  obtain ⟨hx, hb, hml, hR, hown, hts, hK, hty, hlk, hA, hst, hlt, htab⟩ := hX
  obtain ⟨h1, ⟨ty0, h2⟩, h3, h4, h5, h6, h7⟩ := hf
  exact fun H locs ls hP hD hS hl => va_putN (D := D) (ci := ci) (v := v) (ty := ty) (C := C) (T := T) (N := N) hx hb hts h1 ty0 h2 h3 hown hK hP hD hS q0 he h4 kf h5 (hts _ h6) (fun _ h9 => h9) hfin h7 hn hfit hl0 hd (fun H1 locs1 hP1 hD1 hS1 => kk H1 locs1 ls hP1 hD1 hS1 hl)

theorem r_putF {idx ci kf N a : Nat} {C : String} {T : u_T} {ty : FieldType} {fs : List Value} {v : Value} {y : MethodName} (hX : mOK X own cc nL R hh tys) (hi : mIni X) (hf : mFd own idx ci kf C T N ty) (q0 : Nat) (he : ws[q0]? = some (a, .inr (ci, fs))) (hfin : (T kf).2.2.2 = true) (hdecl : (T kf).1 = own) (hn : narrow ty v = v) (hfit : fits ty v = true) (hl0 : kf < fs.length) (hd : decode cc pc = .ok (.putfield idx, 3)) (kk : mV X (pc + 3) lv st (ws.set q0 (a, .inr (ci, fs.set kf v))) k n) : mV X pc lv (v :: .ref a :: st) ws k n := by
  obtain ⟨p, l, e, R', s, m, args, below, meth, c, Q, D, tys', A⟩ := X
  obtain ⟨hx, hb, hml, hR, hown, hts, hK, hty, hlk, hA, hst, hlt, htab⟩ := hX
  obtain ⟨h1, ⟨ty0, h2⟩, h3, h4, h5, h6, h7⟩ := hf
  exact fun H locs ls hP hD hS hl => va_putF (D := D) (ci := ci) (v := v) (ty := ty) (C := C) (T := T) (N := N) hx hb hts h1 ty0 h2 h3 hown hK hP hD hS q0 he h4 kf h5 (hts _ h6) (fun _ h9 => h9) hfin hi hdecl h7 hn hfit hl0 hd (fun H1 locs1 hP1 hD1 hS1 => kk H1 locs1 ls hP1 hD1 hS1 hl)

theorem r_iald {a n0 : Nat} {cA : ClassId} {f : Nat → Int32} {i : Int32} (hX : mOK X own cc nL R hh tys) (q0 t0 : Nat) (he : ws[q0]? = some (a, .inl (cA, n0, .inl f))) (ht : tys[t0]? = some (cA, .int)) (hin : vp_in i n0) (hd : decode cc pc = .ok (.iaload, 1)) (kk : mV X (pc + 1) lv (.int (f i.toNatClampNeg) :: st) ws k n) : mV X pc lv (.int i :: .ref a :: st) ws k n := by
  obtain ⟨p, l, e, R', s, m, args, below, meth, c, Q, D, tys', A⟩ := X
  obtain ⟨hx, hb, hml, hR, hown, hts, hK, hty, hlk, hA, hst, hlt, htab⟩ := hX
  exact fun H locs ls hP hD hS hl => va_iald hx hb hK hP q0 t0 he ht hin hd (kk H locs ls hP hD hS hl)

theorem r_iast {a n0 : Nat} {cA : ClassId} {f : Nat → Int32} {i : Int32} {x : Int32} (hX : mOK X own cc nL R hh tys) (q0 t0 : Nat) (he : ws[q0]? = some (a, .inl (cA, n0, .inl f))) (ht : tys[t0]? = some (cA, .int)) (hin : vp_in i n0) (hd : decode cc pc = .ok (.iastore, 1)) (kk : mV X (pc + 1) lv st (ws.set q0 (a, .inl (cA, n0, .inl (upd f i.toNatClampNeg x)))) k n) : mV X pc lv (.int x :: .int i :: .ref a :: st) ws k n := by
  obtain ⟨p, l, e, R', s, m, args, below, meth, c, Q, D, tys', A⟩ := X
  obtain ⟨hx, hb, hml, hR, hown, hts, hK, hty, hlk, hA, hst, hlt, htab⟩ := hX
  exact fun H locs ls hP hD hS hl => va_iast hx hb hK hP hD hS q0 t0 he ht hin hd (fun H1 locs1 hP1 hD1 hS1 => kk H1 locs1 ls hP1 hD1 hS1 hl)

theorem r_lald {a n0 : Nat} {cA : ClassId} {f : Nat → Int64} {i : Int32} (hX : mOK X own cc nL R hh tys) (q0 t0 : Nat) (he : ws[q0]? = some (a, .inl (cA, n0, .inr (.inl f)))) (ht : tys[t0]? = some (cA, .long)) (hin : vp_in i n0) (hd : decode cc pc = .ok (.laload, 1)) (kk : mV X (pc + 1) lv (.long (f i.toNatClampNeg) :: st) ws k n) : mV X pc lv (.int i :: .ref a :: st) ws k n := by
  obtain ⟨p, l, e, R', s, m, args, below, meth, c, Q, D, tys', A⟩ := X
  obtain ⟨hx, hb, hml, hR, hown, hts, hK, hty, hlk, hA, hst, hlt, htab⟩ := hX
  exact fun H locs ls hP hD hS hl => va_lald hx hb hK hP q0 t0 he ht hin hd (kk H locs ls hP hD hS hl)

theorem r_last {a n0 : Nat} {cA : ClassId} {f : Nat → Int64} {i : Int32} {x : Int64} (hX : mOK X own cc nL R hh tys) (q0 t0 : Nat) (he : ws[q0]? = some (a, .inl (cA, n0, .inr (.inl f)))) (ht : tys[t0]? = some (cA, .long)) (hin : vp_in i n0) (hd : decode cc pc = .ok (.lastore, 1)) (kk : mV X (pc + 1) lv st (ws.set q0 (a, .inl (cA, n0, .inr (.inl (vp_updL f i.toNatClampNeg x))))) k n) : mV X pc lv (.long x :: .int i :: .ref a :: st) ws k n := by
  obtain ⟨p, l, e, R', s, m, args, below, meth, c, Q, D, tys', A⟩ := X
  obtain ⟨hx, hb, hml, hR, hown, hts, hK, hty, hlk, hA, hst, hlt, htab⟩ := hX
  exact fun H locs ls hP hD hS hl => va_last hx hb hK hP hD hS q0 t0 he ht hin hd (fun H1 locs1 hP1 hD1 hS1 => kk H1 locs1 ls hP1 hD1 hS1 hl)

theorem r_aald {a n0 : Nat} {cA : ClassId} {C : String} {f : Nat → Option Nat} {i : Int32} (hX : mOK X own cc nL R hh tys) (q0 t0 : Nat) (he : ws[q0]? = some (a, .inl (cA, n0, .inr (.inr (.inr (.inr f)))))) (ht : tys[t0]? = some (cA, .object C)) (hin : vp_in i n0) (hd : decode cc pc = .ok (.aaload, 1)) (kk : mV X (pc + 1) lv (va_rf (f i.toNatClampNeg) :: st) ws k n) : mV X pc lv (.int i :: .ref a :: st) ws k n := by
  obtain ⟨p, l, e, R', s, m, args, below, meth, c, Q, D, tys', A⟩ := X
  obtain ⟨hx, hb, hml, hR, hown, hts, hK, hty, hlk, hA, hst, hlt, htab⟩ := hX
  exact fun H locs ls hP hD hS hl => va_aldq hx hb hK hP q0 t0 he ht hin hd (kk H locs ls hP hD hS hl)

theorem r_alen {a : Nat} {cA : ClassId} {x : vp_A} {ty : FieldType} {v : Int32} (hX : mOK X own cc nL R hh tys) (q0 t0 : Nat) (he : ws[q0]? = some (a, .inl (cA, x))) (ht : tys[t0]? = some (cA, ty)) (hv : Int32.ofNat x.1 = v) (hd : decode cc pc = .ok (.arraylength, 1)) (kk : mV X (pc + 1) lv (.int v :: st) ws k n) : mV X pc lv (.ref a :: st) ws k n := by
  obtain ⟨p, l, e, R', s, m, args, below, meth, c, Q, D, tys', A⟩ := X
  obtain ⟨hx, hb, hml, hR, hown, hts, hK, hty, hlk, hA, hst, hlt, htab⟩ := hX
  exact fun H locs ls hP hD hS hl => va_alen hx hb hK hP q0 t0 he ht hv hd (kk H locs ls hP hD hS hl)

theorem r_ifnonnull {x : Nat} {off : Int} {tgt : Nat} (hX : mOK X own cc nL R hh tys) (hd : decode cc pc = .ok (.ifnonnull off, 3)) (ht : (pc : Int) + off = (tgt : Int)) (kk : mV X tgt lv st ws k n) : mV X pc lv (.ref x :: st) ws k n := by
  obtain ⟨p, l, e, R', s, m, args, below, meth, c, Q, D, tys', A⟩ := X
  obtain ⟨hx, hb, hml, hR, hown, hts, hK, hty, hlk, hA, hst, hlt, htab⟩ := hX
  exact fun H locs ls hP hD hS hl => lv_ifnonnull hx hb hd ht (kk H locs ls hP hD hS hl)

theorem r_take (j : Nat) (kk : mV X pc lv st (ws.take j) k n) : mV X pc lv st ws k n := by
  obtain ⟨p, l, e, R', s, m, args, below, meth, c, Q, D, tys', A⟩ := X
  refine fun H locs ls hP hD hS hl => kk H locs ls (fun i q h => hP i q ?_) ⟨fun i1 i2 q1 q2 h1 h2 h3 => hD.1 i1 i2 q1 q2 ?_ ?_ h3, fun i q h => hD.2 i q ?_⟩ hS hl
  all_goals
    rw [List.getElem?_take] at *
    split at * <;> simp_all
theorem r_lv {lv' : List (Nat × Option Value)} (hs : ∀ q ∈ lv', q.2 = none ∨ lget lv q.1 = q.2) (kk : mV X pc lv' st ws k n) : mV X pc lv st ws k n := by
  obtain ⟨p, l, e, R', s, m, args, below, meth, c, Q, D, tys', A⟩ := X
  exact fun H locs ls hP hD hS hl => kk H locs ls hP hD hS (hl.sub hs)
theorem r_wide {k' n' : Nat} (hk : k ≤ k') (hn : n ≤ n') (kk : mV X pc lv st ws k' n') : mV X pc lv st ws k n := by
  obtain ⟨p, l, e, R', s, m, args, below, meth, c, Q, D, tys', A⟩ := X
  exact fun H locs ls hP hD hS hl => W.widen hk hn (kk H locs ls hP hD hS hl)

theorem r_iret {x : Int32} (hX : mOK X own cc nL R hh tys) (hE : mE X Φ Ψ (some .int) mc ms) (hd : decode cc pc = .ok (.ireturn, 1))  (hk : k ≤ mc) (hn : n ≤ ms) (hΦ : Φ (some (.int x)) ws) : mV X pc lv [.int x] ws k n := by
  obtain ⟨p, l, e, R', s, m, args, below, meth, c, Q, D, tys', A⟩ := X
  obtain ⟨hx, hb, hml, hR, hown, hts, hK, hty, hlk, hA, hst, hlt, htab⟩ := hX
  obtain ⟨hr, rfl⟩ := hE
  exact fun H locs ls hP hD hS hl => W.widen hk hn (vx_ret (W.iret hx hb hr  (fun t ht hW => ⟨some (.int x), ws, rfl, hΦ, by rw [ht]; exact hP, hD, hS.F ht⟩) hS.2.2 hd (hlocks := hlk)))

theorem r_zret {x : Int32} {ty : FieldType} (hX : mOK X own cc nL R hh tys) (hE : mE X Φ Ψ (some ty) mc ms) (hd : decode cc pc = .ok (.ireturn, 1)) (hnw : narrow ty (.int x) = .int x) (hk : k ≤ mc) (hn : n ≤ ms) (hΦ : Φ (some (.int x)) ws) : mV X pc lv [.int x] ws k n := by
  obtain ⟨p, l, e, R', s, m, args, below, meth, c, Q, D, tys', A⟩ := X
  obtain ⟨hx, hb, hml, hR, hown, hts, hK, hty, hlk, hA, hst, hlt, htab⟩ := hX
  obtain ⟨hr, rfl⟩ := hE
  exact fun H locs ls hP hD hS hl => W.widen hk hn (vx_ret (W.zret hx hb hr hnw (fun t ht hW => ⟨some (.int x), ws, rfl, hΦ, by rw [ht]; exact hP, hD, hS.F ht⟩) hS.2.2 hd (hlocks := hlk)))

theorem r_lret {x : Int64} (hX : mOK X own cc nL R hh tys) (hE : mE X Φ Ψ (some .long) mc ms) (hd : decode cc pc = .ok (.lreturn, 1))  (hk : k ≤ mc) (hn : n ≤ ms) (hΦ : Φ (some (.long x)) ws) : mV X pc lv [.long x] ws k n := by
  obtain ⟨p, l, e, R', s, m, args, below, meth, c, Q, D, tys', A⟩ := X
  obtain ⟨hx, hb, hml, hR, hown, hts, hK, hty, hlk, hA, hst, hlt, htab⟩ := hX
  obtain ⟨hr, rfl⟩ := hE
  exact fun H locs ls hP hD hS hl => W.widen hk hn (vx_ret (W.lret hx hb hr  (fun t ht hW => ⟨some (.long x), ws, rfl, hΦ, by rw [ht]; exact hP, hD, hS.F ht⟩) hS.2.2 hd (hlocks := hlk)))

theorem r_vret  (hX : mOK X own cc nL R hh tys) (hE : mE X Φ Ψ (none) mc ms) (hd : decode cc pc = .ok (.return_, 1))  (hk : k ≤ mc) (hn : n ≤ ms) (hΦ : Φ (none) ws) : mV X pc lv [] ws k n := by
  obtain ⟨p, l, e, R', s, m, args, below, meth, c, Q, D, tys', A⟩ := X
  obtain ⟨hx, hb, hml, hR, hown, hts, hK, hty, hlk, hA, hst, hlt, htab⟩ := hX
  obtain ⟨hr, rfl⟩ := hE
  exact fun H locs ls hP hD hS hl => W.widen hk hn (vx_ret (W.vret hx hb hr  (fun t ht hW => ⟨none, ws, rfl, hΦ, by rw [ht]; exact hP, hD, hS.F ht⟩) hS.2.2 hd (hlocks := hlk)))

theorem r_aret {v : Value} {ty : FieldType} (hX : mOK X own cc nL R hh tys) (hE : mE X Φ Ψ (some ty) mc ms) (hd : decode cc pc = .ok (.areturn, 1)) (hrt : (∃ n, ty = .object n) ∨ ∃ t, ty = .array t) (hv : v = .null ∨ ∃ a, v = .ref a) (hk : k ≤ mc) (hn : n ≤ ms) (hΦ : Φ (some v) ws) : mV X pc lv [v] ws k n := by
  obtain ⟨p, l, e, R', s, m, args, below, meth, c, Q, D, tys', A⟩ := X
  obtain ⟨hx, hb, hml, hR, hown, hts, hK, hty, hlk, hA, hst, hlt, htab⟩ := hX
  obtain ⟨hr, rfl⟩ := hE
  exact fun H locs ls hP hD hS hl => W.widen hk hn (vx_ret (W.aret hx hb hr hrt hv (fun t ht hW => ⟨some v, ws, rfl, hΦ, by rw [ht]; exact hP, hD, hS.F ht⟩) hS.2.2 hd (hlocks := hlk)))

/-- not caught here: on to the caller -/
theorem r_out {E : String} (hX : mOK X own cc nL R [] tys) (hE : mE X Φ Ψ ret mc ms) (hk : k ≤ mc) (hn : n ≤ ms) (hΨ : Ψ E ws) : mT X pc lv st ws k n E := by
  obtain ⟨p, l, e, R', s, m, args, below, meth, c, Q, D, tys', A⟩ := X
  obtain ⟨hx, hb, hml, hR, hown, hts, hK, hty, hlk, hA, hst, hlt, htab⟩ := hX
  obtain ⟨hr, rfl⟩ := hE
  exact fun H locs ls q ce hP hD hS hl hq hv hcl => vx_out (by rw [htab]; exact fun x h => nomatch h) hlk hq hv hcl (fun t ht _ => ⟨ws, hΨ, by rw [ht]; exact hP, hD, hS.F ht⟩) hS.2.2 hk hn
/-- throw new E(text) -/
theorem r_throw {cls text : String} {names : List String} {ik is ic : Nat} (hX : mOK X own cc nL R [] tys) (hE : mE X Φ Ψ ret mc ms) (hcls : Bundle.fit cls = true) (hnames : ∀ n ∈ names, Bundle.fit n = true) (hk0 : Cond.classLink own ik cls ∈ mW) (hini : Cond.initialized cls ∈ mW) (hat : ∀ w ∈ vx_atS own ic cls names, w ∈ mW)
    (hgood : ∀ w ∈ Cond.classLink own ik cls :: Cond.initialized cls :: vx_atS own ic cls names, vx_ot w = true) (hstr : ∀ (A : Nat → Prop) (U : State), mst A U → ∃ a, vk_R own is text a U)
    (d0 : decode cc pc = .ok (.new ik, 3)) (d3 : decode cc (pc + 3) = .ok (.dup, 1)) (d4 : decode cc (pc + 4) = .ok (.ldc is, 2)) (d6 : decode cc (pc + 6) = .ok (.invokespecial ic, 3)) (d9 : decode cc (pc + 9) = .ok (.athrow, 1))
    (hf : names.length + 3 < R.frames) (hlo : (st.map fun v => v.category).sum + (13 * (names.length + 1) + 43) ≤ R.locals) (hRc : k + 1 ≤ R.cells) (hRs : n + 6 ≤ R.slots) (hk : k + 1 ≤ mc) (hn : n + 6 ≤ ms) (hΨ : Ψ cls ws) : mV X pc lv st ws k n := by
  obtain ⟨p, l, e, R', s, m, args, below, meth, c, Q, D, tys', A⟩ := X
  obtain ⟨hx, hb, hml, hR, hown, hts, hK, hty, hlk, hA, hst, hlt, htab⟩ := hX
  obtain ⟨hr, rfl⟩ := hE
  subst hR
  obtain ⟨sa, hsa⟩ := hstr A s hst
  refine fun H locs ls hP hD hS hl => vx_throwS hx hb hlt (A := A) hown hcls hnames (hts _ hk0) (hts _ hini) hsa (fun w hw => hts w (hat w hw)) hgood hst.2.2.1 hst.2.2.2.1 hS hl.1 d0 d3 d4 d6 d9 (by rw [htab]; exact fun x h => nomatch h) hf hlo hRc hRs hlk (fun t _ hz hq => ⟨ws, hΨ, fun i q h => ?_, hD, ?_⟩) hS.2.2 hk hn
  · exact (hP i q h).kept (hq q.1 (hP i q h).lt)
  · exact ⟨Nat.le_trans hS.1 hz, fun q h1 h2 => (hq q (Nat.lt_of_lt_of_le h1 hS.1)).trans (hS.2.1 q h1 h2)⟩

def mPush : Option Value → List Value → List Value
  | none, r => r
  | some v, r => v :: r
theorem mPush_eq (v : Option Value) (r : List Value) : v.toList ++ r = mPush v r := by cases v <;> rfl
/-- what a static call site says -/
def mWS (own : String) (idx : Nat) (y : MethodName) (b : ByteArray) (nL : Nat) (ret : Option FieldType) (cnt : Nat) : Prop :=
  Cond.methodLink own idx y ∈ mW ∧ Cond.static y ∈ mW ∧ Cond.initialized y.cls ∈ mW ∧ Cond.code y b nL ret ∈ mW ∧ (y.cls ≠ "java/lang/invoke/MethodHandle" ∧ y.cls ≠ "java/lang/invoke/VarHandle") ∧ (parseMethodDescriptor y.desc).map (fun d => d.parameters.length) = some cnt
/-- .. of a nest mate's method -/
def mWN (own host : String) (idx : Nat) (y : MethodName) (b : ByteArray) (nL : Nat) (ret : Option FieldType) (cnt : Nat) : Prop :=
  Cond.methodLinkNest own idx y host ∈ mW ∧ Cond.static y ∈ mW ∧ Cond.initialized y.cls ∈ mW ∧ Cond.code y b nL ret ∈ mW ∧ (y.cls ≠ "java/lang/invoke/MethodHandle" ∧ y.cls ≠ "java/lang/invoke/VarHandle") ∧ (parseMethodDescriptor y.desc).map (fun d => d.parameters.length) = some cnt
/-- what a virtual call site says -/
def mWV (own : String) (idx : Nat) (y : MethodName) (b : ByteArray) (nL : Nat) (ret : Option FieldType) (cnt : Nat) : Prop :=
  Cond.methodLink own idx y ∈ mW ∧ Cond.instanceMethod y ∈ mW ∧ Cond.selects y.cls y y ∈ mW ∧ Cond.initialized y.cls ∈ mW ∧ Cond.code y b nL ret ∈ mW ∧ (y.cls ≠ "java/lang/invoke/MethodHandle" ∧ y.cls ≠ "java/lang/invoke/VarHandle") ∧ (parseMethodDescriptor y.desc).map (fun d => d.parameters.length) = some cnt
theorem mWords {args : Array Value} {s : State} {y : MethodName} {b : ByteArray} {nL : Nat} {ret : Option FieldType} (hts : ∀ w ∈ mW, w.before args s = true) (hc : Cond.code y b nL ret ∈ mW) : ∀ w ∈ Cond.code y b nL ret :: mW, ∀ (a' : Array Value) (U : State), s.WarmedH U.vm → w.before a' U = true := by
  intro w hw a' U hW
  rcases List.mem_cons.mp hw with rfl | h
  · exact mwords hts hc a' U hW
  · exact mwords hts h a' U hW
theorem mCount {y : MethodName} {cnt : Nat} (h : (parseMethodDescriptor y.desc).map (fun d => d.parameters.length) = some cnt) : ∀ sig, parseMethodDescriptor y.desc = some sig → cnt = sig.parameters.length := by
  intro sig hs
  rw [hs] at h
  exact (Option.some.inj h).symm
theorem mU_at {D : va_G} {A : Nat → Prop} {s U : State} {H : Heap} {locs : List Loc} (hP : va_P D vwCl ws H) (hD : va_D A ws) (hS : va_S A s.heap H locs) (hK : va_K D vwCl tys s) (hA : ∀ q : Nat, s.heap.size ≤ q → A q) (hst : mst A s) (hU : U.heap = H) (hW : s.WarmedH U.vm) : mU D tys A ws U :=
  ⟨by rw [hU]; exact hP, hD, va_K.moved hW.alike hK, fun q hq => hA q (Nat.le_trans hS.1 (by rw [← hU]; exact hq)), mst.to hW hst (fun a h1 h2 => by rw [hU]; exact hS.2.1 a h1 h2)⟩

theorem r_callS {y : MethodName} {b : ByteArray} {nL2 idx cnt : Nat} {ret2 : Option FieldType} {rm : Room} {as rest : List Value} {Φ2 : Option Value → va_W → Prop} {Ψ2 : String → va_W → Prop} (hX : mOK X own cc nL R hh tys) (hc : mCt tys y b nL2 ret2 rm as ws Φ2 Ψ2) (hw : mWS own idx y b nL2 ret2 cnt) (hst0 : st = as.reverse ++ rest) (hlen : as.length = cnt) (hro : (rest.map fun v => v.category).sum ≤ 8) (hrm : rm.frames + 1 ≤ R.frames ∧ 8 + (nL2 + 11) + rm.locals ≤ R.locals) (hce : k + rm.cells ≤ R.cells ∧ n + rm.slots ≤ R.slots) (hd : decode cc pc = .ok (.invokestatic idx, 3)) (kx : ∀ E ws', Ψ2 E ws' → mT X pc lv rest ws' (k + rm.cells) (n + rm.slots) E) (kk : ∀ v ws', Φ2 v ws' → mV X (pc + 3) lv (mPush v rest) ws' (k + rm.cells) (n + rm.slots)) : mV X pc lv st ws k n := by
  obtain ⟨p, l, e, R', s, m, args, below, meth, c, Q, D, tys', A⟩ := X
  obtain ⟨hx, hb, hml, hR, hown, hts, hK, hty, hlk, hA, hst, hlt, htab⟩ := hX
  obtain ⟨w1, w2, w3, w4, w5, w6⟩ := hw
  subst hR
  intro H locs ls hP hD hS hl
  have hrun := vx_runS (own := own) (index := idx) (cells := k) (slots := n) (locs := locs) (e := e) (below := below) (meth := meth) (rest := rest) (g := F0 m pc ls st) ⟨hx, hb, hml, hown, hts⟩ (hc l D A hlt) ⟨⟨rfl, rfl, hrm.1, hrm.2, mWords hts w4, List.mem_cons_self, hts _ w4, hts _ w3, w5, mCount w6, hts _ w1⟩, hts _ w2⟩ ⟨mU_blind, fun U hU hW => ⟨rfl, mU_at hP hD hS hK hA hst hU hW⟩⟩ rfl hlen (hl.1.trans hml) hst0 (lv_room hro) hd hce
  intro T hT Y
  rcases hrun T hT Y with ⟨v, st₀, t, T', L, h0, Y', hL, e1, e2, ⟨v', ws', hv, hp, hP', hD', hF⟩, stp⟩ | ⟨q, st₀, t, T', L, E, ce, h0, Y', hL, e1, e2, ⟨ws', hp, hP', hD', hF⟩, hce, hcv, hcl, stp⟩
  · cases hv
    obtain ⟨-, -, k3⟩ := vx_keep h0 e1 hS (fun _ _ h => h) (fun _ h => h) hL hF
    obtain ⟨t2, a1, b1⟩ := kk v ws' hp T'.heap (locs ++ L) ls (by rw [e1]; exact hP') hD' k3 hl T' rfl Y'
    rw [← mPush_eq] at a1
    exact ⟨t2, stp t2 a1, b1⟩
  · obtain ⟨-, -, k3⟩ := vx_keep h0 e1 hS (fun _ _ h => h) (fun _ h => h) hL hF
    obtain ⟨t2, a1, b1⟩ := kx E ws' hp T'.heap (locs ++ L) ls q ce (by rw [e1]; exact hP') hD' k3 hl (by rw [e1]; exact hce) hcv hcl T' rfl Y'
    exact ⟨t2, stp.trans a1, b1⟩

theorem r_callV {y : MethodName} {b : ByteArray} {nL2 idx cnt : Nat} {ret2 : Option FieldType} {rm : Room} {as rest : List Value} {Φ2 : Option Value → va_W → Prop} {Ψ2 : String → va_W → Prop} {a ci N : Nat} {T0 : u_T} {fs : List Value} (hX : mOK X own cc nL R hh tys) (hc : mCt tys y b nL2 ret2 rm (.ref a :: as) ws Φ2 Ψ2) (hw : mWV own idx y b nL2 ret2 cnt) (q0 : Nat) (he : ws[q0]? = some (a, .inr (ci, fs))) (hci : vwCl[ci]? = some (y.cls, T0, N)) (hst0 : st = as.reverse ++ .ref a :: rest) (hlen : as.length = cnt) (hro : (rest.map fun v => v.category).sum ≤ 8) (hrm : rm.frames + 1 ≤ R.frames ∧ 8 + (nL2 + 11) + rm.locals ≤ R.locals) (hce : k + rm.cells ≤ R.cells ∧ n + rm.slots ≤ R.slots) (hd : decode cc pc = .ok (.invokevirtual idx, 3)) (kx : ∀ E ws', Ψ2 E ws' → mT X pc lv rest ws' (k + rm.cells) (n + rm.slots) E) (kk : ∀ v ws', Φ2 v ws' → mV X (pc + 3) lv (mPush v rest) ws' (k + rm.cells) (n + rm.slots)) : mV X pc lv st ws k n := by
  obtain ⟨p, l, e, R', s, m, args, below, meth, c, Q, D, tys', A⟩ := X
  obtain ⟨hx, hb, hml, hR, hown, hts, hK, hty, hlk, hA, hst, hlt, htab⟩ := hX
  obtain ⟨w1, w2, w2b, w3, w4, w5, w6⟩ := hw
  subst hR
  intro H locs ls hP hD hS hl
  have hrun := vx_runV (own := own) (C := y.cls) (index := idx) (cells := k) (slots := n) (locs := locs) (e := e) (below := below) (meth := meth) (rest := rest) (g := F0 m pc ls st) ⟨hx, hb, hml, hown, hts⟩ (hc l D A hlt) ⟨⟨rfl, rfl, hrm.1, hrm.2, mWords hts w4, List.mem_cons_self, hts _ w4, hts _ w3, w5, mCount w6, hts _ w1⟩, hts _ w2, hts _ w2b⟩ ⟨mU_blind, va_recv hK hP hci he, fun U hU hW => ⟨rfl, mU_at hP hD hS hK hA hst hU hW⟩⟩ rfl hlen (hl.1.trans hml) hst0 (lv_room hro) hd hce
  intro T hT Y
  rcases hrun T hT Y with ⟨v, st₀, t, T', L, h0, Y', hL, e1, e2, ⟨v', ws', hv, hp, hP', hD', hF⟩, stp⟩ | ⟨q, st₀, t, T', L, E, ce, h0, Y', hL, e1, e2, ⟨ws', hp, hP', hD', hF⟩, hce, hcv, hcl, stp⟩
  · cases hv
    obtain ⟨-, -, k3⟩ := vx_keep h0 e1 hS (fun _ _ h => h) (fun _ h => h) hL hF
    obtain ⟨t2, a1, b1⟩ := kk v ws' hp T'.heap (locs ++ L) ls (by rw [e1]; exact hP') hD' k3 hl T' rfl Y'
    rw [← mPush_eq] at a1
    exact ⟨t2, stp t2 a1, b1⟩
  · obtain ⟨-, -, k3⟩ := vx_keep h0 e1 hS (fun _ _ h => h) (fun _ h => h) hL hF
    obtain ⟨t2, a1, b1⟩ := kx E ws' hp T'.heap (locs ++ L) ls q ce (by rw [e1]; exact hP') hD' k3 hl (by rw [e1]; exact hce) hcv hcl T' rfl Y'
    exact ⟨t2, stp.trans a1, b1⟩

end MR

