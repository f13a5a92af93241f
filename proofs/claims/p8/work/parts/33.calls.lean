/-! Calls of text methods. (Own work.) -/
/-- a further premise of a contract: it looks at the tables and at cells that nobody writes -/
def mGs (G : (Nat → Prop) → State → Prop) : Prop := (∀ A U U', U'.vm = U.vm → U'.heap = U.heap → G A U → G A U') ∧ ∀ (A : Nat → Prop) (s U : State), s.WarmedH U.vm → (∀ a : Nat, a < s.heap.size → ¬ A a → U.heap[a]? = s.heap[a]?) → G A s → G A U
def mHas (X : mC) (G : (Nat → Prop) → State → Prop) : Prop := match X with
  | (_, _, _, _, s, _, _, _, _, _, _, _, _, A) => G A s
def mGT : (Nat → Prop) → State → Prop := fun _ _ => True
theorem mGT_s : mGs mGT := ⟨fun _ _ _ _ _ _ => trivial, fun _ _ _ _ _ _ => trivial⟩
theorem mGT_h {X : mC} : mHas X mGT := by
  obtain ⟨p, l, e, R', s, m, args, below, meth, c, Q, D, tys', A⟩ := X
  exact trivial
/-- a is the text "" of the reference -/
def mEm (a : Nat) : (Nat → Prop) → State → Prop := fun A U => ∃ v : Nat, vk_R RX4 119 "" a U ∧ va_O "java/lang/String" a A U U.heap ∧ va_OF "java/lang/String" "coder" "B" (.int 0) a A U U.heap ∧ va_OF "java/lang/String" "value" "[B" (.ref v) a A U U.heap ∧ va_T .byte v 0 (fun _ => .int 0) A U U.heap
theorem mEm_s (a : Nat) : mGs (mEm a) := by
  refine ⟨fun A U U' hv hh h => ?_, fun A s U hW hq h => ?_⟩
  · obtain ⟨v, h6, h7, h8, h9, h10⟩ := h
    have al : U.vm.Alike U'.vm := by rw [hv]; exact Vm.Alike.refl _
    refine ⟨v, vk_R.same hv h6, ?_, ?_, ?_, ?_⟩
    all_goals rw [hh]
    · exact va_O.moved al h7
    · exact va_OF.moved al h8
    · exact va_OF.moved al h9
    · exact va_T.moved al h10
  · obtain ⟨v, h6, h7, h8, h9, h10⟩ := h
    exact ⟨v, vk_R.warm hW h6, va_O.moved hW.alike (h7.kept hq), va_OF.moved hW.alike (h8.kept hq), va_OF.moved hW.alike (h9.kept hq), va_T.moved hW.alike (h10.kept hq)⟩
/-- a contract with a further premise -/
def mCg (G : (Nat → Prop) → State → Prop) (tys : List (ClassId × FieldType)) (y : MethodName) (cc : ByteArray) (nL : Nat) (ret : Option FieldType) (rm : Room) (as : List Value) (ws : va_W) (Φ : Option Value → va_W → Prop) : Prop :=
  mGs G ∧ ∀ (l : Launch) (D : va_G) (A : Nat → Prop), l.stackTraces = false → vx_Met l y (Cond.code y cc nL ret :: mW) rm (va_Pc as (fun U => mU D tys A ws U ∧ G A U)) (mQ Φ D A) (mX mNo D A) rm.cells rm.slots A
theorem mG_blind {G : (Nat → Prop) → State → Prop} (hG : mGs G) {D : va_G} {tys : List (ClassId × FieldType)} {A : Nat → Prop} {ws : va_W} {as : List Value} : FrameBlind (va_Pc as (fun U => mU D tys A ws U ∧ G A U)) := by
  intro a U g mk h
  obtain ⟨e, h1, h2⟩ := h
  have hm := (mU_blind (as := as) (D := D) (tys := tys) (A := A) (ws := ws)) a U g mk ⟨e, h1⟩
  exact ⟨hm.1, hm.2, hG.1 A U _ rfl rfl h2⟩
theorem mCg.of {G : (Nat → Prop) → State → Prop} {tys : List (ClassId × FieldType)} {y : MethodName} {cc : ByteArray} {nL : Nat} {ret : Option FieldType} {rm : Room} {as : List Value} {ws : va_W} {Φ : Option Value → va_W → Prop} (hG : mGs G) (hy : plainFor y = true) (hlen : (lg_sl as).length ≤ nL)
    (body : ∀ X, mOK X y.cls cc nL rm [] tys → mHas X G → mE X Φ mNo ret rm.cells rm.slots → mV X 0 (mlv as) [] ws 0 0) : mCg G tys y cc nL ret rm as ws Φ := by
  refine ⟨hG, ?_⟩
  intro l D A hst
  refine vx_ofWF (cc := cc) (maxL := nL) (ret := ret) hy rfl ?_
  intro p e s m args below meth c s₁ B hml ht hv
  obtain ⟨rfl, ⟨hP, hD, hK, hA, hs⟩, hg⟩ := hv
  have hts := atoms_spec (ws := Cond.code y cc nL ret :: mW) B.pre
  have htab : c.exceptionTable.toList = tableOf [] := List.eq_nil_iff_forall_not_mem.mpr (fun x hx => ht x hx)
  have h0 := body (p, l, e, _, s, m, _, below, meth, c, _, D, tys, A) ⟨B.exec, B.bytes, hml, rfl, findClass_of_methodNamed B.named, fun w hw => hts w (List.mem_cons_of_mem _ hw), hK, rfl, B.notSynchronized, hA, hs, hst, htab⟩ hg ⟨B.returns, rfl⟩
  have hl := lv_entry as hlen
  rw [lg_entry_eq]
  exact h0 s.heap [] _ hP hD va_S.rf ⟨hl.1.trans hml.symm, hl.2.1, fun i v h => hl.2.2 (i, v) (lget_mem h)⟩
theorem mCt.ofg {tys : List (ClassId × FieldType)} {y : MethodName} {cc : ByteArray} {nL : Nat} {ret : Option FieldType} {rm : Room} {as : List Value} {ws : va_W} {Φ : Option Value → va_W → Prop} (h : mCt tys y cc nL ret rm as ws Φ mNo) : mCg mGT tys y cc nL ret rm as ws Φ := by
  refine ⟨mGT_s, fun l D A hst p e ha hc hk s m args below hf happ hP hK => h l D A hst p e ha hc hk s m args below hf happ ⟨hP.1, hP.2.1⟩ hK⟩
/-- a call of an inherited method on an object of class C -/
def mSel (C : String) (x y : MethodName) : Prop := Cond.selects C x y ∈ mW ∨ (x = y ∧ Cond.privateMethod y ∈ mW ∧ ∃ y0 : MethodName, y0.cls = y.cls ∧ Cond.selects C y0 y0 ∈ mW)
theorem mSel.at {C : String} {x y : MethodName} {args : Array Value} {s : State} (hy : x.cls ≠ "java/lang/invoke/MethodHandle" ∧ x.cls ≠ "java/lang/invoke/VarHandle") (hts : ∀ w ∈ mW, w.before args s = true) (hi : Cond.instanceMethod y ∈ mW) (h : mSel C x y) : (Cond.selects C x y).before args s = true := by
  rcases h with h | ⟨rfl, h1, y0, h2, h3⟩
  · exact hts _ h
  · obtain ⟨c, r, m0, f1, -, f3, -, mk0, f5, f6⟩ := Cond.selects_spec (hts _ h3)
    obtain ⟨mk, methM, hnamed, hmethM, -, -⟩ := Cond.instanceMethod_spec (hts _ hi)
    have hfound : s.methodFound? x.cls x.name x.desc = some mk := State.methodFound?_of_named hnamed hy
    have hcls : mk.cls = m0.cls := by
      have e1 := findClass_of_methodNamed hnamed
      have e2 := findClass_of_methodNamed f3
      rw [h2] at e2
      exact Option.some.inj (e1.symm.trans e2)
    have hsel : selectMethod {} s.vm c mk = .method mk := selectMethod_private hmethM (Cond.privateMethod_at (hts _ h1) mk methM hnamed hmethM)
    have e : Cond.value args s none s [] (Cond.selects C x x) = some true := by
      conv => lhs; whnf
      simp only [f1, hfound, hnamed, hsel, hcls, f5]
      simp; exact f6
    show (Cond.value args s none s [] (Cond.selects C x x) == some true) = true
    rw [e]
    rfl
def mWU (own C : String) (idx : Nat) (x y : MethodName) (b : ByteArray) (nL : Nat) (ret : Option FieldType) (cnt : Nat) : Prop :=
  Cond.methodLink own idx x ∈ mW ∧ Cond.sameMethod x.cls x.cls x.name x.desc ∈ mW ∧ (Cond.instanceMethod x ∈ mW ∧ ∃ b0 m0 r0, Cond.code x b0 m0 r0 ∈ mW) ∧ mSel C x y ∧ Cond.instanceMethod y ∈ mW ∧ Cond.initialized y.cls ∈ mW ∧ Cond.code y b nL ret ∈ mW ∧ (x.cls ≠ "java/lang/invoke/MethodHandle" ∧ x.cls ≠ "java/lang/invoke/VarHandle") ∧ (parseMethodDescriptor x.desc).map (fun d => d.parameters.length) = some cnt
/-- super.y(..) -/
def mWSU (own : String) (idx : Nat) (y : MethodName) (b : ByteArray) (nL : Nat) (ret : Option FieldType) (cnt : Nat) : Prop :=
  Cond.methodLink own idx y ∈ mW ∧ Cond.sameMethod y.cls y.cls y.name y.desc ∈ mW ∧ Cond.superclass own y.cls ∈ mW ∧ Cond.instanceMethod y ∈ mW ∧ Cond.initialized y.cls ∈ mW ∧ Cond.code y b nL ret ∈ mW ∧ y.name ≠ "<init>" ∧ (parseMethodDescriptor y.desc).map (fun d => d.parameters.length) = some cnt
section MCALL
variable {X : mC} {own : String} {cc : ByteArray} {nL : Nat} {R : Room} {hh : List (Nat × Nat × Nat × Nat)} {tys : List (ClassId × FieldType)} {pc : Nat} {lv : List (Nat × Option Value)} {st : List Value} {ws : va_W} {k n : Nat}
theorem mG_at {G : (Nat → Prop) → State → Prop} (hG : mGs G) {D : va_G} {A : Nat → Prop} {s U : State} {H : Heap} {locs : List Loc} (hg : G A s) (hP : va_P D vwCl ws H) (hD : va_D A ws) (hS : va_S A s.heap H locs) (hK : va_K D vwCl tys s) (hA : ∀ q : Nat, s.heap.size ≤ q → A q) (hst : mst A s) (hU : U.heap = H) (hW : s.WarmedH U.vm) : mU D tys A ws U ∧ G A U :=
  ⟨mU_at hP hD hS hK hA hst hU hW, hG.2 A s U hW (fun a h1 h2 => by rw [hU]; exact hS.2.1 a h1 h2) hg⟩

theorem r_callU {G : (Nat → Prop) → State → Prop} {y : MethodName} {b : ByteArray} {nL2 idx cnt a : Nat} {ret2 : Option FieldType} {rm : Room} {as rest : List Value} {Φ2 : Option Value → va_W → Prop} {x : MethodName} {C : String} {ci N : Nat} {T0 : u_T} {fs : List Value} (hX : mOK X own cc nL R hh tys) (hg : mHas X G) (hc : mCg G tys y b nL2 ret2 rm (.ref a :: as) ws Φ2) (hw : mWU own C idx x y b nL2 ret2 cnt) (q0 : Nat) (he : ws[q0]? = some (a, .inr (ci, fs))) (hci : vwCl[ci]? = some (C, T0, N)) (hst0 : st = as.reverse ++ .ref a :: rest) (hlen : as.length = cnt) (hro : (rest.map fun v => v.category).sum ≤ 8) (hrm : rm.frames + 1 ≤ R.frames ∧ 8 + (nL2 + 11) + rm.locals ≤ R.locals) (hce : k + rm.cells ≤ R.cells ∧ n + rm.slots ≤ R.slots) (hd : decode cc pc = .ok (.invokevirtual idx, 3)) (kk : ∀ v ws', Φ2 v ws' → mV X (pc + 3) lv (mPush v rest) ws' (k + rm.cells) (n + rm.slots)) : mV X pc lv st ws k n := by
  obtain ⟨p, l, e, R', s, m, args, below, meth, c, Q, D, tys', A⟩ := X
  obtain ⟨hx, hb, hml, hR, hown, hts, hK, hty, hlk, hA, hst, hlt, htab⟩ := hX
  obtain ⟨w1, w2, ⟨w3, b0, m0, r0, w3c⟩, w4, w5, w6, w7, w8, w9⟩ := hw
  subst hR
  intro H locs ls hP hD hS hl
  have hrun := va_runU (own := own) (C := C) (owner := x.cls) (index := idx) (cells := k) (slots := n) (locs := locs) (e := e) (below := below) (meth := meth) (rest := rest) (g := F0 m pc ls st) ⟨hx, hb, hml, hown, hts⟩ (mMet (hc.2 l D A hlt) (fun E st t h => by obtain ⟨_, h, _⟩ := h; exact h)) ⟨⟨rfl, rfl, hrm.1, hrm.2, mWords hts w7, List.mem_cons_self⟩, hts _ w7, hts _ w6, w8, mCount w9, hts _ w1, hts _ w2, va_Decl.of (hts _ w3) (hts _ w3c), mSel.at w8 hts w5 w4, hts _ w5⟩ ⟨mG_blind hc.1, va_recv hK hP hci he, fun U hU hW => ⟨rfl, mG_at hc.1 hg hP hD hS hK hA hst hU hW⟩⟩ rfl hlen (hl.1.trans hml) hst0 (lv_room hro) hd hce
  intro T hT Y
  obtain ⟨v, st₀, t, T', L, h0, Y', hL, e1, e2, ⟨v', ws', hv, hp, hP', hD', hF⟩, stp⟩ := hrun T hT Y
  cases hv
  obtain ⟨-, -, k3⟩ := vx_keep h0 e1 hS (fun _ _ h => h) (fun _ h => h) hL hF
  obtain ⟨t2, a1, b1⟩ := kk v ws' hp T'.heap (locs ++ L) ls (by rw [e1]; exact hP') hD' k3 hl T' rfl Y'
  rw [← mPush_eq] at a1
  exact ⟨t2, stp t2 a1, b1⟩

theorem r_callSU {G : (Nat → Prop) → State → Prop} {y : MethodName} {b : ByteArray} {nL2 idx cnt a : Nat} {ret2 : Option FieldType} {rm : Room} {as rest : List Value} {Φ2 : Option Value → va_W → Prop} {C : String} {ci N : Nat} {T0 : u_T} {fs : List Value} (hX : mOK X own cc nL R hh tys) (hg : mHas X G) (hc : mCg G tys y b nL2 ret2 rm (.ref a :: as) ws Φ2) (hw : mWSU own idx y b nL2 ret2 cnt) (q0 : Nat) (he : ws[q0]? = some (a, .inr (ci, fs))) (hci : vwCl[ci]? = some (C, T0, N)) (hst0 : st = as.reverse ++ .ref a :: rest) (hlen : as.length = cnt) (hro : (rest.map fun v => v.category).sum ≤ 8) (hrm : rm.frames + 1 ≤ R.frames ∧ 8 + (nL2 + 11) + rm.locals ≤ R.locals) (hce : k + rm.cells ≤ R.cells ∧ n + rm.slots ≤ R.slots) (hd : decode cc pc = .ok (.invokespecial idx, 3)) (kk : ∀ v ws', Φ2 v ws' → mV X (pc + 3) lv (mPush v rest) ws' (k + rm.cells) (n + rm.slots)) : mV X pc lv st ws k n := by
  obtain ⟨p, l, e, R', s, m, args, below, meth, c, Q, D, tys', A⟩ := X
  obtain ⟨hx, hb, hml, hR, hown, hts, hK, hty, hlk, hA, hst, hlt, htab⟩ := hX
  obtain ⟨w1, w2, w3, w4, w5, w6, w7, w8⟩ := hw
  subst hR
  intro H locs ls hP hD hS hl
  have hrun := va_runSU (hK.1 ci _ hci).2 (own := own) (index := idx) (cells := k) (slots := n) (locs := locs) (e := e) (below := below) (meth := meth) (rest := rest) (g := F0 m pc ls st) ⟨hx, hb, hml, hown, hts⟩ (mMet (hc.2 l D A hlt) (fun E st t h => by obtain ⟨_, h, _⟩ := h; exact h)) ⟨⟨rfl, rfl, hrm.1, hrm.2, mWords hts w6, List.mem_cons_self⟩, hts _ w1, hts _ w2, hts _ w3, hts _ w4, hts _ w5, hts _ w6, w7, mCount w8⟩ ⟨mG_blind hc.1, va_recv hK hP hci he, fun U hU hW => ⟨rfl, mG_at hc.1 hg hP hD hS hK hA hst hU hW⟩⟩ rfl hlen (hl.1.trans hml) hst0 (lv_room hro) hd hce
  intro T hT Y
  obtain ⟨v, st₀, t, T', L, h0, Y', hL, e1, e2, ⟨v', ws', hv, hp, hP', hD', hF⟩, stp⟩ := hrun T hT Y
  cases hv
  obtain ⟨-, -, k3⟩ := vx_keep h0 e1 hS (fun _ _ h => h) (fun _ h => h) hL hF
  obtain ⟨t2, a1, b1⟩ := kk v ws' hp T'.heap (locs ++ L) ls (by rw [e1]; exact hP') hD' k3 hl T' rfl Y'
  rw [← mPush_eq] at a1
  exact ⟨t2, stp t2 a1, b1⟩

theorem r_callVg {G : (Nat → Prop) → State → Prop} {y : MethodName} {b : ByteArray} {nL2 idx cnt a : Nat} {ret2 : Option FieldType} {rm : Room} {as rest : List Value} {Φ2 : Option Value → va_W → Prop} {ci N : Nat} {T0 : u_T} {fs : List Value} (hX : mOK X own cc nL R hh tys) (hg : mHas X G) (hc : mCg G tys y b nL2 ret2 rm (.ref a :: as) ws Φ2) (hw : mWV own idx y b nL2 ret2 cnt) (q0 : Nat) (he : ws[q0]? = some (a, .inr (ci, fs))) (hci : vwCl[ci]? = some (y.cls, T0, N)) (hst0 : st = as.reverse ++ .ref a :: rest) (hlen : as.length = cnt) (hro : (rest.map fun v => v.category).sum ≤ 8) (hrm : rm.frames + 1 ≤ R.frames ∧ 8 + (nL2 + 11) + rm.locals ≤ R.locals) (hce : k + rm.cells ≤ R.cells ∧ n + rm.slots ≤ R.slots) (hd : decode cc pc = .ok (.invokevirtual idx, 3)) (kk : ∀ v ws', Φ2 v ws' → mV X (pc + 3) lv (mPush v rest) ws' (k + rm.cells) (n + rm.slots)) : mV X pc lv st ws k n := by
  obtain ⟨p, l, e, R', s, m, args, below, meth, c, Q, D, tys', A⟩ := X
  obtain ⟨hx, hb, hml, hR, hown, hts, hK, hty, hlk, hA, hst, hlt, htab⟩ := hX
  obtain ⟨w1, w2, w2b, w3, w4, w5, w6⟩ := hw
  subst hR
  intro H locs ls hP hD hS hl
  have hrun := va_runV (own := own) (C := y.cls) (index := idx) (cells := k) (slots := n) (locs := locs) (e := e) (below := below) (meth := meth) (rest := rest) (g := F0 m pc ls st) ⟨hx, hb, hml, hown, hts⟩ (mMet (hc.2 l D A hlt) (fun E st t h => by obtain ⟨_, h, _⟩ := h; exact h)) ⟨⟨rfl, rfl, hrm.1, hrm.2, mWords hts w4, List.mem_cons_self, hts _ w4, hts _ w3, w5, mCount w6, hts _ w1⟩, hts _ w2, hts _ w2b⟩ ⟨mG_blind hc.1, va_recv hK hP hci he, fun U hU hW => ⟨rfl, mG_at hc.1 hg hP hD hS hK hA hst hU hW⟩⟩ rfl hlen (hl.1.trans hml) hst0 (lv_room hro) hd hce
  intro T hT Y
  obtain ⟨v, st₀, t, T', L, h0, Y', hL, e1, e2, ⟨v', ws', hv, hp, hP', hD', hF⟩, stp⟩ := hrun T hT Y
  cases hv
  obtain ⟨-, -, k3⟩ := vx_keep h0 e1 hS (fun _ _ h => h) (fun _ h => h) hL hF
  obtain ⟨t2, a1, b1⟩ := kk v ws' hp T'.heap (locs ++ L) ls (by rw [e1]; exact hP') hD' k3 hl T' rfl Y'
  rw [← mPush_eq] at a1
  exact ⟨t2, stp t2 a1, b1⟩

theorem r_callVe {y : MethodName} {b : ByteArray} {nL2 idx cnt a : Nat} {ret2 : Option FieldType} {rm : Room} {as rest : List Value} {Φ2 : Option Value → va_W → Prop} (hX : mOK X own cc nL R hh tys) (hg : mHas X (mEm a)) (hyc : y.cls = "java/lang/String") (hc : mCg (mEm a) tys y b nL2 ret2 rm (.ref a :: as) ws Φ2) (hw : mWV own idx y b nL2 ret2 cnt) (hst0 : st = as.reverse ++ .ref a :: rest) (hlen : as.length = cnt) (hro : (rest.map fun v => v.category).sum ≤ 8) (hrm : rm.frames + 1 ≤ R.frames ∧ 8 + (nL2 + 11) + rm.locals ≤ R.locals) (hce : k + rm.cells ≤ R.cells ∧ n + rm.slots ≤ R.slots) (hd : decode cc pc = .ok (.invokevirtual idx, 3)) (kk : ∀ v ws', Φ2 v ws' → mV X (pc + 3) lv (mPush v rest) ws' (k + rm.cells) (n + rm.slots)) : mV X pc lv st ws k n := by
  obtain ⟨p, l, e, R', s, m, args, below, meth, c, Q, D, tys', A⟩ := X
  obtain ⟨hx, hb, hml, hR, hown, hts, hK, hty, hlk, hA, hst, hlt, htab⟩ := hX
  obtain ⟨w1, w2, w2b, w3, w4, w5, w6⟩ := hw
  subst hR
  intro H locs ls hP hD hS hl
  have hrecv : ∃ cell : Cell, H[a]? = some cell ∧ cell.vm.isStatics = false ∧ s.vm.findClass y.cls = some cell.cls := by
    obtain ⟨v, -, h7, -⟩ := (hg : mEm a A s)
    obtain ⟨cell, h1, h2, h3, -⟩ := h7.kept hS.2.1
    exact ⟨cell, h1, h2, by rw [hyc]; exact h3⟩
  have hrun := va_runV (own := own) (C := y.cls) (index := idx) (cells := k) (slots := n) (locs := locs) (e := e) (below := below) (meth := meth) (rest := rest) (g := F0 m pc ls st) ⟨hx, hb, hml, hown, hts⟩ (mMet (hc.2 l D A hlt) (fun E st t h => by obtain ⟨_, h, _⟩ := h; exact h)) ⟨⟨rfl, rfl, hrm.1, hrm.2, mWords hts w4, List.mem_cons_self, hts _ w4, hts _ w3, w5, mCount w6, hts _ w1⟩, hts _ w2, hts _ w2b⟩ ⟨mG_blind hc.1, hrecv, fun U hU hW => ⟨rfl, mG_at hc.1 hg hP hD hS hK hA hst hU hW⟩⟩ rfl hlen (hl.1.trans hml) hst0 (lv_room hro) hd hce
  intro T hT Y
  obtain ⟨v, st₀, t, T', L, h0, Y', hL, e1, e2, ⟨v', ws', hv, hp, hP', hD', hF⟩, stp⟩ := hrun T hT Y
  cases hv
  obtain ⟨-, -, k3⟩ := vx_keep h0 e1 hS (fun _ _ h => h) (fun _ h => h) hL hF
  obtain ⟨t2, a1, b1⟩ := kk v ws' hp T'.heap (locs ++ L) ls (by rw [e1]; exact hP') hD' k3 hl T' rfl Y'
  rw [← mPush_eq] at a1
  exact ⟨t2, stp t2 a1, b1⟩

/-- v holds the bytes of "" -/
def mEv (v : Nat) : (Nat → Prop) → State → Prop := fun A U => va_T .byte v 0 (fun _ => .int 0) A U U.heap
theorem r_emCoder {a idx : Nat} (hX : mOK X own cc nL R hh tys) (hg : mHas X (mEm a)) (hw : Cond.fieldLink own idx "java/lang/String" "coder" "B" ∈ mW) (hd : decode cc pc = .ok (.getfield idx, 3)) (kk : mV X (pc + 3) lv (.int 0 :: st) ws k n) : mV X pc lv (.ref a :: st) ws k n := by
  obtain ⟨p, l, e, R', s, m, args, below, meth, c, Q, D, tys', A⟩ := X
  obtain ⟨hx, hb, hml, hR, hown, hts, hK, hty, hlk, hA, hst, hlt, htab⟩ := hX
  obtain ⟨v, -, -, h8, -⟩ := (hg : mEm a A s)
  exact fun H locs ls hP hD hS hl => vk_getf hx hb h8 hS hown (hts _ hw) (fun _ h => h) hd (kk H locs ls hP hD hS hl)
theorem r_emValue {a idx : Nat} (hX : mOK X own cc nL R hh tys) (hg : mHas X (mEm a)) (hw : Cond.fieldLink own idx "java/lang/String" "value" "[B" ∈ mW) (hd : decode cc pc = .ok (.getfield idx, 3)) (kk : ∀ v, mHas X (mEv v) → mV X (pc + 3) lv (.ref v :: st) ws k n) : mV X pc lv (.ref a :: st) ws k n := by
  obtain ⟨p, l, e, R', s, m, args, below, meth, c, Q, D, tys', A⟩ := X
  obtain ⟨hx, hb, hml, hR, hown, hts, hK, hty, hlk, hA, hst, hlt, htab⟩ := hX
  obtain ⟨v, -, -, -, h9, h10⟩ := (hg : mEm a A s)
  exact fun H locs ls hP hD hS hl => vk_getf hx hb h9 hS hown (hts _ hw) (fun _ h => h) hd (kk v h10 H locs ls hP hD hS hl)
theorem r_emLen {v : Nat} (hX : mOK X own cc nL R hh tys) (hg : mHas X (mEv v)) (hd : decode cc pc = .ok (.arraylength, 1)) (kk : mV X (pc + 1) lv (.int 0 :: st) ws k n) : mV X pc lv (.ref v :: st) ws k n := by
  obtain ⟨p, l, e, R', s, m, args, below, meth, c, Q, D, tys', A⟩ := X
  obtain ⟨hx, hb, hml, hR, hown, hts, hK, hty, hlk, hA, hst, hlt, htab⟩ := hX
  exact fun H locs ls hP hD hS hl => va_tlen hx hb (show va_T .byte v 0 (fun _ => .int 0) A s s.heap from hg) hS rfl hd (kk H locs ls hP hD hS hl)
theorem r_emCopy {a b0 n1 idx : Nat} {c1 : ClassId} {g : Nat → Int32} {dp : Int32} (hX : mOK X own cc nL R hh tys) (hg : mHas X (mEv b0)) (hw : Cond.methodLink own idx arraycopyName ∈ mW) (q1 t1 : Nat) (h1 : ws[q1]? = some (a, .inl (c1, n1, .inl g))) (ht1 : tys[t1]? = some (c1, .byte)) (g2 : ¬ dp < 0) (g5 : dp.toNatClampNeg ≤ n1) (hfr : 1 ≤ R.frames) (hlo : (st.map fun v => v.category).sum + 100 ≤ R.locals) (hd : decode cc pc = .ok (.invokestatic idx, 3)) (kk : mV X (pc + 3) lv st ws k n) : mV X pc lv (.int 0 :: .int dp :: .ref a :: .int 0 :: .ref b0 :: st) ws k n := by
  obtain ⟨p, l, e, R', s, m, args, below, meth, c, Q, D, tys', A⟩ := X
  obtain ⟨hx, hb, hml, hR, hown, hts, hK, hty, hlk, hA, hst, hlt, htab⟩ := hX
  subst hR
  have z0 : (0 : Int32).toNatClampNeg = 0 := by decide +kernel
  have hT : va_T .byte b0 0 (fun j => .int ((fun _ => 0) j)) A s s.heap := hg
  refine fun H locs ls hP hD hS hl => vk_copyt hx hb hl.1.symm hown (hts _ hw) (hts _ kcN) (hts _ kcS) (hts _ kcI) hK hP hD hS hT q1 t1 h1 ht1 (by decide +kernel) g2 (by decide +kernel) (by decide +kernel) (by rw [z0]; omega) (fun i hi => absurd hi (by rw [z0]; exact Nat.not_lt_zero i)) hfr (Nat.le_trans (Nat.add_le_add_left (by decide) _) hlo) hd (fun H1 locs1 hP1 hD1 hS1 => ?_)
  have e9 : va_cpy (fun _ => 0) g (0 : Int32).toNatClampNeg dp.toNatClampNeg (0 : Int32).toNatClampNeg = g := by
    funext j
    rw [z0]
    exact pk_cpy_out (show j < dp.toNatClampNeg ∨ dp.toNatClampNeg + 0 ≤ j by omega)
  rw [e9] at hP1 hD1
  have e8 : ws.set q1 (a, .inl (c1, n1, .inl g)) = ws := by
    apply List.ext_getElem?
    intro i
    by_cases hi : q1 = i
    · subst hi
      rw [List.getElem?_set_self (List.getElem?_eq_some_iff.mp h1).1, h1]
    · rw [List.getElem?_set_ne hi]
  rw [e8] at hP1 hD1
  exact kk H1 locs1 ls hP1 hD1 hS1 hl
theorem r_ldcE (hX : mOK X RX4 cc nL R hh tys) (hd : decode cc pc = .ok (.ldc 119, 2)) (kk : ∀ a, mHas X (mEm a) → mV X (pc + 2) lv (.ref a :: st) ws k n) : mV X pc lv st ws k n := by
  obtain ⟨p, l, e, R', s, m, args, below, meth, c, Q, D, tys', A⟩ := X
  obtain ⟨hx, hb, hml, hR, hown, hts, hK, hty, hlk, hA, hst, hlt, htab⟩ := hX
  obtain ⟨a, v, h6, h7, h8, h9, h10⟩ := hst.2.2.2.2.2.2.2
  exact fun H locs ls hP hD hS hl => va_ldcS hx hb hown h6 hd (kk a ⟨v, h6, h7, h8, h9, h10⟩ H locs ls hP hD hS hl)
end MCALL
/-- one more array class, known by the tables -/
def mTb4 (cs : ClassId × ClassId × ClassId) (cB : ClassId) : List (ClassId × FieldType) := [(cs.1, .int), (cs.2.1, .long), (cs.2.2, .object RX1), (cB, .byte)]
theorem r_byte {X : mC} {own : String} {cc : ByteArray} {nL : Nat} {R : Room} {hh : List (Nat × Nat × Nat × Nat)} {cs : ClassId × ClassId × ClassId} {pc : Nat} {lv : List (Nat × Option Value)} {st : List Value} {ws : va_W} {k n : Nat} {Φ : Option Value → va_W → Prop} {Ψ : String → va_W → Prop} {ret : Option FieldType} {mc ms : Nat} (hX : mOK X own cc nL R hh (mTy cs)) (hE : mE X Φ Ψ ret mc ms)
    (kk : ∀ (Y : mC) (cB : ClassId), mOK Y own cc nL R hh (mTb4 cs cB) → mE Y Φ Ψ ret mc ms → mV Y pc lv st ws k n) : mV X pc lv st ws k n := by
  obtain ⟨p, l, e, R', s, m, args, below, meth, c, Q, D, tys', A⟩ := X
  obtain ⟨hx, hb, hml, hR, hown, hts, hK, hty, hlk, hA, hst, hlt, htab⟩ := hX
  subst hty
  obtain ⟨cA, h1, h2⟩ : ∃ cA : ClassId, ArrOfT s cA .byte ∧ va_RA s cA .byte := by
    obtain ⟨c, k9, comp, h1, h2, h3⟩ := Cond.arrayClass_spec (hts _ kab)
    exact ⟨c, fun n z => ⟨fun k h => (by cases h), k9, h2, comp, h3⟩, h1⟩
  refine kk (p, l, e, R', s, m, args, below, meth, c, Q, D, mTb4 cs cA, A) cA ⟨hx, hb, hml, hR, hown, hts, ?_, rfl, hlk, hA, hst, hlt, htab⟩ hE
  refine ⟨hK.1, fun k q hq => ?_⟩
  match k, hq with
  | 0, hq => exact hK.2 0 q hq
  | 1, hq => exact hK.2 1 q hq
  | 2, hq => exact hK.2 2 q hq
  | 3, hq =>
    cases hq
    exact ⟨h1, h2⟩
  | k + 4, hq => exact absurd hq (fun h => nomatch h)


