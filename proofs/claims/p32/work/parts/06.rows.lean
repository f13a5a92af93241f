-- 33 calls
section
/-! Calls of text methods. (Own work.) -/
/-- a further premise of a contract: it looks at the tables and at cells that nobody writes -/
def mGs (G : (Nat → Prop) → State → Prop) : Prop := (∀ A U U', U'.vm = U.vm → U'.heap = U.heap → G A U → G A U') ∧ ∀ (A : Nat → Prop) (s U : State), s.WarmedH U.vm → (∀ a : Nat, a < s.heap.size → ¬ A a → U.heap[a]? = s.heap[a]?) → G A s → G A U
def mHas (X : mC) (G : (Nat → Prop) → State → Prop) : Prop := match X with
  | (_, _, _, _, s, _, _, _, _, _, _, _, _, A) => G A s
def mGT : (Nat → Prop) → State → Prop := fun _ _ => True
theorem mGT_s : mGs mGT := ⟨fun _ _ _ _ _ _ => trivial, fun _ _ _ _ _ _ => trivial⟩
theorem mGT_h {X : mC} : mHas X mGT := by
  obtain ⟨p, l, e, R', s, m, args, below, meth, c, Q, D, tys', A⟩ := X
  exact trivial
/-- a is the text "" of the reference -/
def mEm (a : Nat) : (Nat → Prop) → State → Prop := fun A U => ∃ v : Nat, vk_R RX4 119 "" a U ∧ va_O "java/lang/String" a A U U.heap ∧ va_OF "java/lang/String" "coder" "B" (.int 0) a A U U.heap ∧ va_OF "java/lang/String" "value" "[B" (.ref v) a A U U.heap ∧ va_T .byte v 0 (fun _ => .int 0) A U U.heap
theorem mEm_s (a : Nat) : mGs (mEm a) := by
  refine ⟨fun A U U' hv hh h => ?_, fun A s U hW hq h => ?_⟩
  · obtain ⟨v, h6, h7, h8, h9, h10⟩ := h
    have al : U.vm.Alike U'.vm := by rw [hv]; exact Vm.Alike.refl _
    refine ⟨v, vk_R.same hv h6, ?_, ?_, ?_, ?_⟩
    all_goals rw [hh]
    · exact va_O.moved al h7
    · exact va_OF.moved al h8
    · exact va_OF.moved al h9
    · exact va_T.moved al h10
  · obtain ⟨v, h6, h7, h8, h9, h10⟩ := h
    exact ⟨v, vk_R.warm hW h6, va_O.moved hW.alike (h7.kept hq), va_OF.moved hW.alike (h8.kept hq), va_OF.moved hW.alike (h9.kept hq), va_T.moved hW.alike (h10.kept hq)⟩
/-- a contract with a further premise -/
def mCg (G : (Nat → Prop) → State → Prop) (tys : List (ClassId × FieldType)) (y : MethodName) (cc : ByteArray) (nL : Nat) (ret : Option FieldType) (rm : Room) (as : List Value) (ws : va_W) (Φ : Option Value → va_W → Prop) : Prop :=
  mGs G ∧ ∀ (l : Launch) (D : va_G) (A : Nat → Prop), l.stackTraces = false → vx_Met l y (Cond.code y cc nL ret :: mW) rm (va_Pc as (fun U => mU D tys A ws U ∧ G A U)) (mQ Φ D A) (mX mNo D A) rm.cells rm.slots A
theorem mG_blind {G : (Nat → Prop) → State → Prop} (hG : mGs G) {D : va_G} {tys : List (ClassId × FieldType)} {A : Nat → Prop} {ws : va_W} {as : List Value} : FrameBlind (va_Pc as (fun U => mU D tys A ws U ∧ G A U)) := by
  intro a U g mk h
  obtain ⟨e, h1, h2⟩ := h
  have hm := (mU_blind (as := as) (D := D) (tys := tys) (A := A) (ws := ws)) a U g mk ⟨e, h1⟩
  exact ⟨hm.1, hm.2, hG.1 A U _ rfl rfl h2⟩
theorem mCg.of {G : (Nat → Prop) → State → Prop} {tys : List (ClassId × FieldType)} {y : MethodName} {cc : ByteArray} {nL : Nat} {ret : Option FieldType} {rm : Room} {as : List Value} {ws : va_W} {Φ : Option Value → va_W → Prop} (hG : mGs G) (hy : plainFor y = true) (hlen : (lg_sl as).length ≤ nL)
    (body : ∀ X, mOK X y.cls cc nL rm [] tys → mHas X G → mE X Φ mNo ret rm.cells rm.slots → mV X 0 (mlv as) [] ws 0 0) : mCg G tys y cc nL ret rm as ws Φ := by
  refine ⟨hG, ?_⟩
  intro l D A hst
  refine vx_ofWF (cc := cc) (maxL := nL) (ret := ret) hy rfl ?_
  intro p e s m args below meth c s₁ B hml ht hv
  obtain ⟨rfl, ⟨hP, hD, hK, hA, hs⟩, hg⟩ := hv
  have hts := atoms_spec (ws := Cond.code y cc nL ret :: mW) B.pre
  have htab : c.exceptionTable.toList = tableOf [] := List.eq_nil_iff_forall_not_mem.mpr (fun x hx => ht x hx)
  have h0 := body (p, l, e, _, s, m, _, below, meth, c, _, D, tys, A) ⟨B.exec, B.bytes, hml, rfl, findClass_of_methodNamed B.named, fun w hw => hts w (List.mem_cons_of_mem _ hw), hK, rfl, B.notSynchronized, hA, hs, hst, htab⟩ hg ⟨B.returns, rfl⟩
  have hl := lv_entry as hlen
  rw [lg_entry_eq]
  exact h0 s.heap [] _ hP hD va_S.rf ⟨hl.1.trans hml.symm, hl.2.1, fun i v h => hl.2.2 (i, v) (lget_mem h)⟩
theorem mCt.ofg {tys : List (ClassId × FieldType)} {y : MethodName} {cc : ByteArray} {nL : Nat} {ret : Option FieldType} {rm : Room} {as : List Value} {ws : va_W} {Φ : Option Value → va_W → Prop} (h : mCt tys y cc nL ret rm as ws Φ mNo) : mCg mGT tys y cc nL ret rm as ws Φ := by
  refine ⟨mGT_s, fun l D A hst p e ha hc hk s m args below hf happ hP hK => h l D A hst p e ha hc hk s m args below hf happ ⟨hP.1, hP.2.1⟩ hK⟩
/-- a call of an inherited method on an object of class C -/
def mSel (C : String) (x y : MethodName) : Prop := Cond.selects C x y ∈ mW ∨ (x = y ∧ Cond.privateMethod y ∈ mW ∧ ∃ y0 : MethodName, y0.cls = y.cls ∧ Cond.selects C y0 y0 ∈ mW)
theorem mSel.at {C : String} {x y : MethodName} {args : Array Value} {s : State} (hy : x.cls ≠ "java/lang/invoke/MethodHandle" ∧ x.cls ≠ "java/lang/invoke/VarHandle") (hts : ∀ w ∈ mW, w.before args s = true) (hi : Cond.instanceMethod y ∈ mW) (h : mSel C x y) : (Cond.selects C x y).before args s = true := by
  rcases h with h | ⟨rfl, h1, y0, h2, h3⟩
  · exact hts _ h
  · obtain ⟨c, r, m0, f1, -, f3, -, mk0, f5, f6⟩ := Cond.selects_spec (hts _ h3)
    obtain ⟨mk, methM, hnamed, hmethM, -, -⟩ := Cond.instanceMethod_spec (hts _ hi)
    have hfound : s.methodFound? x.cls x.name x.desc = some mk := State.methodFound?_of_named hnamed hy
    have hcls : mk.cls = m0.cls := by
      have e1 := findClass_of_methodNamed hnamed
      have e2 := findClass_of_methodNamed f3
      rw [h2] at e2
      exact Option.some.inj (e1.symm.trans e2)
    have hsel : selectMethod {} s.vm c mk = .method mk := selectMethod_private hmethM (Cond.privateMethod_at (hts _ h1) mk methM hnamed hmethM)
    have e : Cond.value args s none s [] (Cond.selects C x x) = some true := by
      conv => lhs; whnf
      simp only [f1, hfound, hnamed, hsel, hcls, f5]
      simp; exact f6
    show (Cond.value args s none s [] (Cond.selects C x x) == some true) = true
    rw [e]
    rfl
def mWU (own C : String) (idx : Nat) (x y : MethodName) (b : ByteArray) (nL : Nat) (ret : Option FieldType) (cnt : Nat) : Prop :=
  Cond.methodLink own idx x ∈ mW ∧ Cond.sameMethod x.cls x.cls x.name x.desc ∈ mW ∧ (Cond.instanceMethod x ∈ mW ∧ ∃ b0 m0 r0, Cond.code x b0 m0 r0 ∈ mW) ∧ mSel C x y ∧ Cond.instanceMethod y ∈ mW ∧ Cond.initialized y.cls ∈ mW ∧ Cond.code y b nL ret ∈ mW ∧ (x.cls ≠ "java/lang/invoke/MethodHandle" ∧ x.cls ≠ "java/lang/invoke/VarHandle") ∧ (parseMethodDescriptor x.desc).map (fun d => d.parameters.length) = some cnt
/-- super.y(..) -/
def mWSU (own : String) (idx : Nat) (y : MethodName) (b : ByteArray) (nL : Nat) (ret : Option FieldType) (cnt : Nat) : Prop :=
  Cond.methodLink own idx y ∈ mW ∧ Cond.sameMethod y.cls y.cls y.name y.desc ∈ mW ∧ Cond.superclass own y.cls ∈ mW ∧ Cond.instanceMethod y ∈ mW ∧ Cond.initialized y.cls ∈ mW ∧ Cond.code y b nL ret ∈ mW ∧ y.name ≠ "<init>" ∧ (parseMethodDescriptor y.desc).map (fun d => d.parameters.length) = some cnt
section MCALL
variable {X : mC} {own : String} {cc : ByteArray} {nL : Nat} {R : Room} {hh : List (Nat × Nat × Nat × Nat)} {tys : List (ClassId × FieldType)} {pc : Nat} {lv : List (Nat × Option Value)} {st : List Value} {ws : va_W} {k n : Nat}
theorem mG_at {G : (Nat → Prop) → State → Prop} (hG : mGs G) {D : va_G} {A : Nat → Prop} {s U : State} {H : Heap} {locs : List Loc} (hg : G A s) (hP : va_P D vwCl ws H) (hD : va_D A ws) (hS : va_S A s.heap H locs) (hK : va_K D vwCl tys s) (hA : ∀ q : Nat, s.heap.size ≤ q → A q) (hst : mst A s) (hU : U.heap = H) (hW : s.WarmedH U.vm) : mU D tys A ws U ∧ G A U :=
  ⟨mU_at hP hD hS hK hA hst hU hW, hG.2 A s U hW (fun a h1 h2 => by rw [hU]; exact hS.2.1 a h1 h2) hg⟩

theorem r_callU {G : (Nat → Prop) → State → Prop} {y : MethodName} {b : ByteArray} {nL2 idx cnt a : Nat} {ret2 : Option FieldType} {rm : Room} {as rest : List Value} {Φ2 : Option Value → va_W → Prop} {x : MethodName} {C : String} {ci N : Nat} {T0 : u_T} {fs : List Value} (hX : mOK X own cc nL R hh tys) (hg : mHas X G) (hc : mCg G tys y b nL2 ret2 rm (.ref a :: as) ws Φ2) (hw : mWU own C idx x y b nL2 ret2 cnt) (q0 : Nat) (he : ws[q0]? = some (a, .inr (ci, fs))) (hci : vwCl[ci]? = some (C, T0, N)) (hst0 : st = as.reverse ++ .ref a :: rest) (hlen : as.length = cnt) (hro : (rest.map fun v => v.category).sum ≤ 8) (hrm : rm.frames + 1 ≤ R.frames ∧ 8 + (nL2 + 11) + rm.locals ≤ R.locals) (hce : k + rm.cells ≤ R.cells ∧ n + rm.slots ≤ R.slots) (hd : decode cc pc = .ok (.invokevirtual idx, 3)) (kk : ∀ v ws', Φ2 v ws' → mV X (pc + 3) lv (mPush v rest) ws' (k + rm.cells) (n + rm.slots)) : mV X pc lv st ws k n := by
  obtain ⟨p, l, e, R', s, m, args, below, meth, c, Q, D, tys', A⟩ := X
  obtain ⟨hx, hb, hml, hR, hown, hts, hK, hty, hlk, hA, hst, hlt, htab⟩ := hX
  obtain ⟨w1, w2, ⟨w3, b0, m0, r0, w3c⟩, w4, w5, w6, w7, w8, w9⟩ := hw
  subst hR
  intro H locs ls hP hD hS hl
  have hrun := va_runU (own := own) (C := C) (owner := x.cls) (index := idx) (cells := k) (slots := n) (locs := locs) (e := e) (below := below) (meth := meth) (rest := rest) (g := F0 m pc ls st) ⟨hx, hb, hml, hown, hts⟩ (mMet (hc.2 l D A hlt) (fun E st t h => by obtain ⟨_, h, _⟩ := h; exact h)) ⟨⟨rfl, rfl, hrm.1, hrm.2, mWords hts w7, List.mem_cons_self⟩, hts _ w7, hts _ w6, w8, mCount w9, hts _ w1, hts _ w2, va_Decl.of (hts _ w3) (hts _ w3c), mSel.at w8 hts w5 w4, hts _ w5⟩ ⟨mG_blind hc.1, va_recv hK hP hci he, fun U hU hW => ⟨rfl, mG_at hc.1 hg hP hD hS hK hA hst hU hW⟩⟩ rfl hlen (hl.1.trans hml) hst0 (lv_room hro) hd hce
  intro T hT Y
  obtain ⟨v, st₀, t, T', L, h0, Y', hL, e1, e2, ⟨v', ws', hv, hp, hP', hD', hF⟩, stp⟩ := hrun T hT Y
  cases hv
  obtain ⟨-, -, k3⟩ := vx_keep h0 e1 hS (fun _ _ h => h) (fun _ h => h) hL hF
  obtain ⟨t2, a1, b1⟩ := kk v ws' hp T'.heap (locs ++ L) ls (by rw [e1]; exact hP') hD' k3 hl T' rfl Y'
  rw [← mPush_eq] at a1
  exact ⟨t2, stp t2 a1, b1⟩

theorem r_callSU {G : (Nat → Prop) → State → Prop} {y : MethodName} {b : ByteArray} {nL2 idx cnt a : Nat} {ret2 : Option FieldType} {rm : Room} {as rest : List Value} {Φ2 : Option Value → va_W → Prop} {C : String} {ci N : Nat} {T0 : u_T} {fs : List Value} (hX : mOK X own cc nL R hh tys) (hg : mHas X G) (hc : mCg G tys y b nL2 ret2 rm (.ref a :: as) ws Φ2) (hw : mWSU own idx y b nL2 ret2 cnt) (q0 : Nat) (he : ws[q0]? = some (a, .inr (ci, fs))) (hci : vwCl[ci]? = some (C, T0, N)) (hst0 : st = as.reverse ++ .ref a :: rest) (hlen : as.length = cnt) (hro : (rest.map fun v => v.category).sum ≤ 8) (hrm : rm.frames + 1 ≤ R.frames ∧ 8 + (nL2 + 11) + rm.locals ≤ R.locals) (hce : k + rm.cells ≤ R.cells ∧ n + rm.slots ≤ R.slots) (hd : decode cc pc = .ok (.invokespecial idx, 3)) (kk : ∀ v ws', Φ2 v ws' → mV X (pc + 3) lv (mPush v rest) ws' (k + rm.cells) (n + rm.slots)) : mV X pc lv st ws k n := by
  obtain ⟨p, l, e, R', s, m, args, below, meth, c, Q, D, tys', A⟩ := X
  obtain ⟨hx, hb, hml, hR, hown, hts, hK, hty, hlk, hA, hst, hlt, htab⟩ := hX
  obtain ⟨w1, w2, w3, w4, w5, w6, w7, w8⟩ := hw
  subst hR
  intro H locs ls hP hD hS hl
  have hrun := va_runSU (hK.1 ci _ hci).2 (own := own) (index := idx) (cells := k) (slots := n) (locs := locs) (e := e) (below := below) (meth := meth) (rest := rest) (g := F0 m pc ls st) ⟨hx, hb, hml, hown, hts⟩ (mMet (hc.2 l D A hlt) (fun E st t h => by obtain ⟨_, h, _⟩ := h; exact h)) ⟨⟨rfl, rfl, hrm.1, hrm.2, mWords hts w6, List.mem_cons_self⟩, hts _ w1, hts _ w2, hts _ w3, hts _ w4, hts _ w5, hts _ w6, w7, mCount w8⟩ ⟨mG_blind hc.1, va_recv hK hP hci he, fun U hU hW => ⟨rfl, mG_at hc.1 hg hP hD hS hK hA hst hU hW⟩⟩ rfl hlen (hl.1.trans hml) hst0 (lv_room hro) hd hce
  intro T hT Y
  obtain ⟨v, st₀, t, T', L, h0, Y', hL, e1, e2, ⟨v', ws', hv, hp, hP', hD', hF⟩, stp⟩ := hrun T hT Y
  cases hv
  obtain ⟨-, -, k3⟩ := vx_keep h0 e1 hS (fun _ _ h => h) (fun _ h => h) hL hF
  obtain ⟨t2, a1, b1⟩ := kk v ws' hp T'.heap (locs ++ L) ls (by rw [e1]; exact hP') hD' k3 hl T' rfl Y'
  rw [← mPush_eq] at a1
  exact ⟨t2, stp t2 a1, b1⟩

theorem r_callVg {G : (Nat → Prop) → State → Prop} {y : MethodName} {b : ByteArray} {nL2 idx cnt a : Nat} {ret2 : Option FieldType} {rm : Room} {as rest : List Value} {Φ2 : Option Value → va_W → Prop} {ci N : Nat} {T0 : u_T} {fs : List Value} (hX : mOK X own cc nL R hh tys) (hg : mHas X G) (hc : mCg G tys y b nL2 ret2 rm (.ref a :: as) ws Φ2) (hw : mWV own idx y b nL2 ret2 cnt) (q0 : Nat) (he : ws[q0]? = some (a, .inr (ci, fs))) (hci : vwCl[ci]? = some (y.cls, T0, N)) (hst0 : st = as.reverse ++ .ref a :: rest) (hlen : as.length = cnt) (hro : (rest.map fun v => v.category).sum ≤ 8) (hrm : rm.frames + 1 ≤ R.frames ∧ 8 + (nL2 + 11) + rm.locals ≤ R.locals) (hce : k + rm.cells ≤ R.cells ∧ n + rm.slots ≤ R.slots) (hd : decode cc pc = .ok (.invokevirtual idx, 3)) (kk : ∀ v ws', Φ2 v ws' → mV X (pc + 3) lv (mPush v rest) ws' (k + rm.cells) (n + rm.slots)) : mV X pc lv st ws k n := by
  obtain ⟨p, l, e, R', s, m, args, below, meth, c, Q, D, tys', A⟩ := X
  obtain ⟨hx, hb, hml, hR, hown, hts, hK, hty, hlk, hA, hst, hlt, htab⟩ := hX
  obtain ⟨w1, w2, w2b, w3, w4, w5, w6⟩ := hw
  subst hR
  intro H locs ls hP hD hS hl
  have hrun := va_runV (own := own) (C := y.cls) (index := idx) (cells := k) (slots := n) (locs := locs) (e := e) (below := below) (meth := meth) (rest := rest) (g := F0 m pc ls st) ⟨hx, hb, hml, hown, hts⟩ (mMet (hc.2 l D A hlt) (fun E st t h => by obtain ⟨_, h, _⟩ := h; exact h)) ⟨⟨rfl, rfl, hrm.1, hrm.2, mWords hts w4, List.mem_cons_self, hts _ w4, hts _ w3, w5, mCount w6, hts _ w1⟩, hts _ w2, hts _ w2b⟩ ⟨mG_blind hc.1, va_recv hK hP hci he, fun U hU hW => ⟨rfl, mG_at hc.1 hg hP hD hS hK hA hst hU hW⟩⟩ rfl hlen (hl.1.trans hml) hst0 (lv_room hro) hd hce
  intro T hT Y
  obtain ⟨v, st₀, t, T', L, h0, Y', hL, e1, e2, ⟨v', ws', hv, hp, hP', hD', hF⟩, stp⟩ := hrun T hT Y
  cases hv
  obtain ⟨-, -, k3⟩ := vx_keep h0 e1 hS (fun _ _ h => h) (fun _ h => h) hL hF
  obtain ⟨t2, a1, b1⟩ := kk v ws' hp T'.heap (locs ++ L) ls (by rw [e1]; exact hP') hD' k3 hl T' rfl Y'
  rw [← mPush_eq] at a1
  exact ⟨t2, stp t2 a1, b1⟩

theorem r_callVe {y : MethodName} {b : ByteArray} {nL2 idx cnt a : Nat} {ret2 : Option FieldType} {rm : Room} {as rest : List Value} {Φ2 : Option Value → va_W → Prop} (hX : mOK X own cc nL R hh tys) (hg : mHas X (mEm a)) (hyc : y.cls = "java/lang/String") (hc : mCg (mEm a) tys y b nL2 ret2 rm (.ref a :: as) ws Φ2) (hw : mWV own idx y b nL2 ret2 cnt) (hst0 : st = as.reverse ++ .ref a :: rest) (hlen : as.length = cnt) (hro : (rest.map fun v => v.category).sum ≤ 8) (hrm : rm.frames + 1 ≤ R.frames ∧ 8 + (nL2 + 11) + rm.locals ≤ R.locals) (hce : k + rm.cells ≤ R.cells ∧ n + rm.slots ≤ R.slots) (hd : decode cc pc = .ok (.invokevirtual idx, 3)) (kk : ∀ v ws', Φ2 v ws' → mV X (pc + 3) lv (mPush v rest) ws' (k + rm.cells) (n + rm.slots)) : mV X pc lv st ws k n := by
  obtain ⟨p, l, e, R', s, m, args, below, meth, c, Q, D, tys', A⟩ := X
  obtain ⟨hx, hb, hml, hR, hown, hts, hK, hty, hlk, hA, hst, hlt, htab⟩ := hX
  obtain ⟨w1, w2, w2b, w3, w4, w5, w6⟩ := hw
  subst hR
  intro H locs ls hP hD hS hl
  have hrecv : ∃ cell : Cell, H[a]? = some cell ∧ cell.vm.isStatics = false ∧ s.vm.findClass y.cls = some cell.cls := by
    obtain ⟨v, -, h7, -⟩ := (hg : mEm a A s)
    obtain ⟨cell, h1, h2, h3, -⟩ := h7.kept hS.2.1
    exact ⟨cell, h1, h2, by rw [hyc]; exact h3⟩
  have hrun := va_runV (own := own) (C := y.cls) (index := idx) (cells := k) (slots := n) (locs := locs) (e := e) (below := below) (meth := meth) (rest := rest) (g := F0 m pc ls st) ⟨hx, hb, hml, hown, hts⟩ (mMet (hc.2 l D A hlt) (fun E st t h => by obtain ⟨_, h, _⟩ := h; exact h)) ⟨⟨rfl, rfl, hrm.1, hrm.2, mWords hts w4, List.mem_cons_self, hts _ w4, hts _ w3, w5, mCount w6, hts _ w1⟩, hts _ w2, hts _ w2b⟩ ⟨mG_blind hc.1, hrecv, fun U hU hW => ⟨rfl, mG_at hc.1 hg hP hD hS hK hA hst hU hW⟩⟩ rfl hlen (hl.1.trans hml) hst0 (lv_room hro) hd hce
  intro T hT Y
  obtain ⟨v, st₀, t, T', L, h0, Y', hL, e1, e2, ⟨v', ws', hv, hp, hP', hD', hF⟩, stp⟩ := hrun T hT Y
  cases hv
  obtain ⟨-, -, k3⟩ := vx_keep h0 e1 hS (fun _ _ h => h) (fun _ h => h) hL hF
  obtain ⟨t2, a1, b1⟩ := kk v ws' hp T'.heap (locs ++ L) ls (by rw [e1]; exact hP') hD' k3 hl T' rfl Y'
  rw [← mPush_eq] at a1
  exact ⟨t2, stp t2 a1, b1⟩

/-- v holds the bytes of "" -/
def mEv (v : Nat) : (Nat → Prop) → State → Prop := fun A U => va_T .byte v 0 (fun _ => .int 0) A U U.heap
theorem r_emCoder {a idx : Nat} (hX : mOK X own cc nL R hh tys) (hg : mHas X (mEm a)) (hw : Cond.fieldLink own idx "java/lang/String" "coder" "B" ∈ mW) (hd : decode cc pc = .ok (.getfield idx, 3)) (kk : mV X (pc + 3) lv (.int 0 :: st) ws k n) : mV X pc lv (.ref a :: st) ws k n := by
  obtain ⟨p, l, e, R', s, m, args, below, meth, c, Q, D, tys', A⟩ := X
  obtain ⟨hx, hb, hml, hR, hown, hts, hK, hty, hlk, hA, hst, hlt, htab⟩ := hX
  obtain ⟨v, -, -, h8, -⟩ := (hg : mEm a A s)
  exact fun H locs ls hP hD hS hl => vk_getf hx hb h8 hS hown (hts _ hw) (fun _ h => h) hd (kk H locs ls hP hD hS hl)
theorem r_emValue {a idx : Nat} (hX : mOK X own cc nL R hh tys) (hg : mHas X (mEm a)) (hw : Cond.fieldLink own idx "java/lang/String" "value" "[B" ∈ mW) (hd : decode cc pc = .ok (.getfield idx, 3)) (kk : ∀ v, mHas X (mEv v) → mV X (pc + 3) lv (.ref v :: st) ws k n) : mV X pc lv (.ref a :: st) ws k n := by
  obtain ⟨p, l, e, R', s, m, args, below, meth, c, Q, D, tys', A⟩ := X
  obtain ⟨hx, hb, hml, hR, hown, hts, hK, hty, hlk, hA, hst, hlt, htab⟩ := hX
  obtain ⟨v, -, -, -, h9, h10⟩ := (hg : mEm a A s)
  exact fun H locs ls hP hD hS hl => vk_getf hx hb h9 hS hown (hts _ hw) (fun _ h => h) hd (kk v h10 H locs ls hP hD hS hl)
theorem r_emLen {v : Nat} (hX : mOK X own cc nL R hh tys) (hg : mHas X (mEv v)) (hd : decode cc pc = .ok (.arraylength, 1)) (kk : mV X (pc + 1) lv (.int 0 :: st) ws k n) : mV X pc lv (.ref v :: st) ws k n := by
  obtain ⟨p, l, e, R', s, m, args, below, meth, c, Q, D, tys', A⟩ := X
  obtain ⟨hx, hb, hml, hR, hown, hts, hK, hty, hlk, hA, hst, hlt, htab⟩ := hX
  exact fun H locs ls hP hD hS hl => va_tlen hx hb (show va_T .byte v 0 (fun _ => .int 0) A s s.heap from hg) hS rfl hd (kk H locs ls hP hD hS hl)
theorem r_emCopy {a b0 n1 idx : Nat} {c1 : ClassId} {g : Nat → Int32} {dp : Int32} (hX : mOK X own cc nL R hh tys) (hg : mHas X (mEv b0)) (hw : Cond.methodLink own idx arraycopyName ∈ mW) (q1 t1 : Nat) (h1 : ws[q1]? = some (a, .inl (c1, n1, .inl g))) (ht1 : tys[t1]? = some (c1, .byte)) (g2 : ¬ dp < 0) (g5 : dp.toNatClampNeg ≤ n1) (hfr : 1 ≤ R.frames) (hlo : (st.map fun v => v.category).sum + 100 ≤ R.locals) (hd : decode cc pc = .ok (.invokestatic idx, 3)) (kk : mV X (pc + 3) lv st ws k n) : mV X pc lv (.int 0 :: .int dp :: .ref a :: .int 0 :: .ref b0 :: st) ws k n := by
  obtain ⟨p, l, e, R', s, m, args, below, meth, c, Q, D, tys', A⟩ := X
  obtain ⟨hx, hb, hml, hR, hown, hts, hK, hty, hlk, hA, hst, hlt, htab⟩ := hX
  subst hR
  have z0 : (0 : Int32).toNatClampNeg = 0 := by decide +kernel
  have hT : va_T .byte b0 0 (fun j => .int ((fun _ => 0) j)) A s s.heap := hg
  refine fun H locs ls hP hD hS hl => vk_copyt hx hb hl.1.symm hown (hts _ hw) (hts _ kcN) (hts _ kcS) (hts _ kcI) hK hP hD hS hT q1 t1 h1 ht1 (by decide +kernel) g2 (by decide +kernel) (by decide +kernel) (by rw [z0]; omega) (fun i hi => absurd hi (by rw [z0]; exact Nat.not_lt_zero i)) hfr (Nat.le_trans (Nat.add_le_add_left (by decide) _) hlo) hd (fun H1 locs1 hP1 hD1 hS1 => ?_)
  have e9 : va_cpy (fun _ => 0) g (0 : Int32).toNatClampNeg dp.toNatClampNeg (0 : Int32).toNatClampNeg = g := by
    funext j
    rw [z0]
    exact pk_cpy_out (show j < dp.toNatClampNeg ∨ dp.toNatClampNeg + 0 ≤ j by omega)
  rw [e9] at hP1 hD1
  have e8 : ws.set q1 (a, .inl (c1, n1, .inl g)) = ws := by
    apply List.ext_getElem?
    intro i
    by_cases hi : q1 = i
    · subst hi
      rw [List.getElem?_set_self (List.getElem?_eq_some_iff.mp h1).1, h1]
    · rw [List.getElem?_set_ne hi]
  rw [e8] at hP1 hD1
  exact kk H1 locs1 ls hP1 hD1 hS1 hl
theorem r_ldcE (hX : mOK X RX4 cc nL R hh tys) (hd : decode cc pc = .ok (.ldc 119, 2)) (kk : ∀ a, mHas X (mEm a) → mV X (pc + 2) lv (.ref a :: st) ws k n) : mV X pc lv st ws k n := by
  obtain ⟨p, l, e, R', s, m, args, below, meth, c, Q, D, tys', A⟩ := X
  obtain ⟨hx, hb, hml, hR, hown, hts, hK, hty, hlk, hA, hst, hlt, htab⟩ := hX
  obtain ⟨a, v, h6, h7, h8, h9, h10⟩ := hst.2.2.2.2.2.2.2
  exact fun H locs ls hP hD hS hl => va_ldcS hx hb hown h6 hd (kk a ⟨v, h6, h7, h8, h9, h10⟩ H locs ls hP hD hS hl)
end MCALL
/-- one more array class, known by the tables -/
def mTb4 (cs : ClassId × ClassId × ClassId) (cB : ClassId) : List (ClassId × FieldType) := [(cs.1, .int), (cs.2.1, .long), (cs.2.2, .object RX1), (cB, .byte)]
theorem mV_tys {p : Program} {l : Launch} {e : Env} {R : Room} {s : State} {m : MethodId} {args : Array Value} {below : List Frame} {meth : Method} {c : Code} {Q : State → Prop} {D : va_G} {t1 t2 : List (ClassId × FieldType)} {A : Nat → Prop} {pc : Nat} {lv : List (Nat × Option Value)} {st : List Value} {ws : va_W} {k n : Nat} (h : mV (p, l, e, R, s, m, args, below, meth, c, Q, D, t1, A) pc lv st ws k n) : mV (p, l, e, R, s, m, args, below, meth, c, Q, D, t2, A) pc lv st ws k n := h
theorem mE_tys {p : Program} {l : Launch} {e : Env} {R : Room} {s : State} {m : MethodId} {args : Array Value} {below : List Frame} {meth : Method} {c : Code} {Q : State → Prop} {D : va_G} {t1 t2 : List (ClassId × FieldType)} {A : Nat → Prop} {Φ : Option Value → va_W → Prop} {Ψ : String → va_W → Prop} {ret : Option FieldType} {mc ms : Nat} (h : mE (p, l, e, R, s, m, args, below, meth, c, Q, D, t1, A) Φ Ψ ret mc ms) : mE (p, l, e, R, s, m, args, below, meth, c, Q, D, t2, A) Φ Ψ ret mc ms := h
theorem r_byte {X : mC} {own : String} {cc : ByteArray} {nL : Nat} {R : Room} {hh : List (Nat × Nat × Nat × Nat)} {cs : ClassId × ClassId × ClassId} {pc : Nat} {lv : List (Nat × Option Value)} {st : List Value} {ws : va_W} {k n : Nat} {Φ : Option Value → va_W → Prop} {Ψ : String → va_W → Prop} {ret : Option FieldType} {mc ms : Nat} (hX : mOK X own cc nL R hh (mTy cs)) (hE : mE X Φ Ψ ret mc ms)
    (kk : ∀ (Y : mC) (cB : ClassId), mOK Y own cc nL R hh (mTb4 cs cB) → mE Y Φ Ψ ret mc ms → mV Y pc lv st ws k n) : mV X pc lv st ws k n := by
  obtain ⟨p, l, e, R', s, m, args, below, meth, c, Q, D, tys', A⟩ := X
  obtain ⟨hx, hb, hml, hR, hown, hts, hK, hty, hlk, hA, hst, hlt, htab⟩ := hX
  subst hty
  obtain ⟨cA, h1, h2⟩ : ∃ cA : ClassId, ArrOfT s cA .byte ∧ va_RA s cA .byte := by
    obtain ⟨c, k9, comp, h1, h2, h3⟩ := Cond.arrayClass_spec (hts _ kab)
    exact ⟨c, fun n z => ⟨fun k h => (by cases h), k9, h2, comp, h3⟩, h1⟩
  refine mV_tys (kk (p, l, e, R', s, m, args, below, meth, c, Q, D, mTb4 cs cA, A) cA ⟨hx, hb, hml, hR, hown, hts, ?_, rfl, hlk, hA, hst, hlt, htab⟩ (mE_tys hE))
  refine ⟨hK.1, fun k q hq => ?_⟩
  match k, hq with
  | 0, hq => exact hK.2 0 q hq
  | 1, hq => exact hK.2 1 q hq
  | 2, hq => exact hK.2 2 q hq
  | 3, hq =>
    cases hq
    exact ⟨h1, h2⟩
  | k + 4, hq => exact absurd hq (fun h => nomatch h)
end
-- 34 jwords
section
/-! Words and names of the JDK's text methods (printed). -/
def RJ13 : String := "java/lang/Long"
def RJ1 : String := "java/lang/StringLatin1"
def RJ7 : String := "java/util/Arrays"
def RJ8 : String := "jdk/internal/util/ArraysSupport"
abbrev cJ4_init_da8c8 : ByteArray := prog_18_method_1_code
def yJ4_init_da8c8 : MethodName := ⟨RJ4, "<init>", "()V"⟩
abbrev cJ5_init_d00df : ByteArray := prog_7_method_2_code
def yJ5_init_d00df : MethodName := ⟨RJ5, "<init>", "(I)V"⟩
abbrev cJ4_append_cf468 : ByteArray := prog_18_method_14_code
def yJ4_append_cf468 : MethodName := ⟨RJ4, "append", "(C)Ljava/lang/StringBuilder;"⟩
abbrev cJ5_append_3fe6f : ByteArray := prog_7_method_31_code
def yJ5_append_3fe6f : MethodName := ⟨RJ5, "append", "(C)Ljava/lang/AbstractStringBuilder;"⟩
abbrev cJ5_ensureCapacityInternal_d00df : ByteArray := prog_7_method_9_code
def yJ5_ensureCapacityInternal_d00df : MethodName := ⟨RJ5, "ensureCapacityInternal", "(I)V"⟩
abbrev cJ5_newCapacity_0f7a4 : ByteArray := prog_7_method_10_code
def yJ5_newCapacity_0f7a4 : MethodName := ⟨RJ5, "newCapacity", "(I)I"⟩
abbrev cJ8_newLength_cabcc : ByteArray := prog_24_method_27_code
def yJ8_newLength_cabcc : MethodName := ⟨RJ8, "newLength", "(III)I"⟩
abbrev cJ7_copyOf_9075b : ByteArray := prog_23_method_121_code
def yJ7_copyOf_9075b : MethodName := ⟨RJ7, "copyOf", "([BI)[B"⟩
abbrev cJ5_isLatin1_aae02 : ByteArray := prog_7_method_68_code
def yJ5_isLatin1_aae02 : MethodName := ⟨RJ5, "isLatin1", "()Z"⟩
abbrev cJ1_canEncode_fc78d : ByteArray := prog_19_method_3_code
def yJ1_canEncode_fc78d : MethodName := ⟨RJ1, "canEncode", "(C)Z"⟩
abbrev cJ4_reverse_43fcb : ByteArray := prog_18_method_39_code
def yJ4_reverse_43fcb : MethodName := ⟨RJ4, "reverse", "()Ljava/lang/StringBuilder;"⟩
abbrev cJ5_reverse_278bc : ByteArray := prog_7_method_60_code
def yJ5_reverse_278bc : MethodName := ⟨RJ5, "reverse", "()Ljava/lang/AbstractStringBuilder;"⟩
abbrev cJ4_toString_0e30d : ByteArray := prog_18_method_42_code
def yJ4_toString_0e30d : MethodName := ⟨RJ4, "toString", "()Ljava/lang/String;"⟩
abbrev cJ0_init_81219 : ByteArray := prog_17_method_53_code
def yJ0_init_81219 : MethodName := ⟨RJ0, "<init>", "(Ljava/lang/StringBuilder;)V"⟩
abbrev cJ0_init_db425 : ByteArray := prog_17_method_150_code
def yJ0_init_db425 : MethodName := ⟨RJ0, "<init>", "(Ljava/lang/AbstractStringBuilder;Ljava/lang/Void;)V"⟩
abbrev cJ5_getValue_6d5f1 : ByteArray := prog_7_method_64_code
def yJ5_getValue_6d5f1 : MethodName := ⟨RJ5, "getValue", "()[B"⟩
abbrev cJ5_length_8abf5 : ByteArray := prog_7_method_6_code
def yJ5_length_8abf5 : MethodName := ⟨RJ5, "length", "()I"⟩
abbrev cJ4_length_8abf5 : ByteArray := prog_18_method_93_code
def yJ4_length_8abf5 : MethodName := ⟨RJ4, "length", "()I"⟩
abbrev cJ7_copyOfRange_39247 : ByteArray := prog_23_method_132_code
def yJ7_copyOfRange_39247 : MethodName := ⟨RJ7, "copyOfRange", "([BII)[B"⟩
abbrev cJ7_copyOfRangeByte_39247 : ByteArray := prog_23_method_133_code
def yJ7_copyOfRangeByte_39247 : MethodName := ⟨RJ7, "copyOfRangeByte", "([BII)[B"⟩
abbrev cJ7_checkLength_df160 : ByteArray := prog_23_method_131_code
def yJ7_checkLength_df160 : MethodName := ⟨RJ7, "checkLength", "(II)V"⟩
abbrev cJ4_append_15ec4 : ByteArray := prog_18_method_7_code
def yJ4_append_15ec4 : MethodName := ⟨RJ4, "append", "(Ljava/lang/String;)Ljava/lang/StringBuilder;"⟩
abbrev cJ5_append_cf1ce : ByteArray := prog_7_method_22_code
def yJ5_append_cf1ce : MethodName := ⟨RJ5, "append", "(Ljava/lang/String;)Ljava/lang/AbstractStringBuilder;"⟩
abbrev cJ0_length_8abf5 : ByteArray := prog_17_method_54_code
def yJ0_length_8abf5 : MethodName := ⟨RJ0, "length", "()I"⟩
abbrev cJ0_coder_7d493 : ByteArray := prog_17_method_152_code
def yJ0_coder_7d493 : MethodName := ⟨RJ0, "coder", "()B"⟩
abbrev cJ5_putStringAt_47b60 : ByteArray := prog_7_method_73_code
def yJ5_putStringAt_47b60 : MethodName := ⟨RJ5, "putStringAt", "(ILjava/lang/String;)V"⟩
abbrev cJ5_inflateIfNeededFor_a7421 : ByteArray := prog_7_method_71_code
def yJ5_inflateIfNeededFor_a7421 : MethodName := ⟨RJ5, "inflateIfNeededFor", "(Ljava/lang/String;)V"⟩
abbrev cJ0_getBytes_840e7 : ByteArray := prog_17_method_147_code
def yJ0_getBytes_840e7 : MethodName := ⟨RJ0, "getBytes", "([BIB)V"⟩
abbrev cJ4_append_f7089 : ByteArray := prog_18_method_16_code
def yJ4_append_f7089 : MethodName := ⟨RJ4, "append", "(J)Ljava/lang/StringBuilder;"⟩
abbrev cJ5_append_66267 : ByteArray := prog_7_method_33_code
def yJ5_append_66267 : MethodName := ⟨RJ5, "append", "(J)Ljava/lang/AbstractStringBuilder;"⟩
abbrev cJ13_stringSize_95d88 : ByteArray := prog_14_method_15_code
def yJ13_stringSize_95d88 : MethodName := ⟨RJ13, "stringSize", "(J)I"⟩
abbrev cJ13_getChars_11360 : ByteArray := prog_14_method_14_code
def yJ13_getChars_11360 : MethodName := ⟨RJ13, "getChars", "(JI[B)I"⟩
theorem kinJ4 : ∀ w ∈ u_ws RJ4 TJ4 4, w ∈ mW := by
  intro w hw
  obtain ⟨k, hk0, rfl⟩ := List.mem_map.mp (show w ∈ (List.range 4).map (u_lay RJ4 TJ4) from hw)
  have hk := List.mem_range.mp hk0
  clear hk0 hw
  match k, hk with
  | 0, _ => exact mtb_3 (List.mem_of_getElem? (i := 26) rfl) rfl
  | 1, _ => exact mtb_3 (List.mem_of_getElem? (i := 28) rfl) rfl
  | 2, _ => exact mtb_3 (List.mem_of_getElem? (i := 30) rfl) rfl
  | 3, _ => exact mtb_3 (List.mem_of_getElem? (i := 32) rfl) rfl
  | k + 4, h => exact absurd h (by omega)
theorem kinJ0 : ∀ w ∈ u_ws RJ0 TJ0 4, w ∈ mW := by
  intro w hw
  obtain ⟨k, hk0, rfl⟩ := List.mem_map.mp (show w ∈ (List.range 4).map (u_lay RJ0 TJ0) from hw)
  have hk := List.mem_range.mp hk0
  clear hk0 hw
  match k, hk with
  | 0, _ => exact mtb_4 (List.mem_of_getElem? (i := 55) rfl) rfl
  | 1, _ => exact mtb_4 (List.mem_of_getElem? (i := 57) rfl) rfl
  | 2, _ => exact mtb_4 (List.mem_of_getElem? (i := 59) rfl) rfl
  | 3, _ => exact mtb_4 (List.mem_of_getElem? (i := 61) rfl) rfl
  | k + 4, h => exact absurd h (by omega)
set_option maxRecDepth 20000 in
theorem jw_51 : (Cond.initialized RJ4) ∈ mW := mtb_1 (List.mem_of_getElem? (i := 12) rfl) rfl
theorem jt_J4 : (Cond.initialized RJ4) ∈ mW := jw_51
set_option maxRecDepth 20000 in
theorem jw_52 : (Cond.initialized RJ0) ∈ mW := mtb_1 (List.mem_of_getElem? (i := 13) rfl) rfl
theorem jt_J0 : (Cond.initialized RJ0) ∈ mW := jw_52
set_option maxRecDepth 20000 in
theorem jw_524 : (Cond.instantiable RJ4 4) ∈ mW := mtb_3 (List.mem_of_getElem? (i := 5) rfl) rfl
theorem jn_J4 : (Cond.instantiable RJ4 4) ∈ mW := jw_524
set_option maxRecDepth 20000 in
theorem jw_525 : (Cond.methodLink RX2 282 yJ4_init_da8c8) ∈ mW := mtb_3 (List.mem_of_getElem? (i := 6) rfl) rfl
set_option maxRecDepth 20000 in
theorem jw_526 : (Cond.instanceMethod yJ4_init_da8c8) ∈ mW := mtb_3 (List.mem_of_getElem? (i := 7) rfl) rfl
set_option maxRecDepth 20000 in
theorem jw_527 : (Cond.code yJ4_init_da8c8 cJ4_init_da8c8 1 none) ∈ mW := mtb_3 (List.mem_of_getElem? (i := 8) rfl) rfl
theorem ji_X2_282 : mWI RX2 282 yJ4_init_da8c8 cJ4_init_da8c8 1 0 := ⟨jw_525, jw_526, jw_51, jw_527, ⟨by decide +kernel, by decide +kernel⟩, by decide +kernel, rfl⟩
set_option maxRecDepth 20000 in
theorem jw_528 : (Cond.methodLink RJ4 1 yJ5_init_d00df) ∈ mW := mtb_3 (List.mem_of_getElem? (i := 9) rfl) rfl
set_option maxRecDepth 20000 in
theorem jw_50 : (Cond.initialized RJ5) ∈ mW := mtb_1 (List.mem_of_getElem? (i := 11) rfl) rfl
set_option maxRecDepth 20000 in
theorem jw_529 : (Cond.instanceMethod yJ5_init_d00df) ∈ mW := mtb_3 (List.mem_of_getElem? (i := 10) rfl) rfl
set_option maxRecDepth 20000 in
theorem jw_530 : (Cond.code yJ5_init_d00df cJ5_init_d00df 2 none) ∈ mW := mtb_3 (List.mem_of_getElem? (i := 11) rfl) rfl
theorem ji_J4_1 : mWI RJ4 1 yJ5_init_d00df cJ5_init_d00df 2 1 := ⟨jw_528, jw_529, jw_50, jw_530, ⟨by decide +kernel, by decide +kernel⟩, by decide +kernel, rfl⟩
set_option maxRecDepth 20000 in
theorem jw_531 : (Cond.methodLink RJ5 3 Lib.objectInit) ∈ mW := mtb_3 (List.mem_of_getElem? (i := 12) rfl) rfl
theorem job_J5 : (Cond.methodLink RJ5 3 Lib.objectInit) ∈ mW := jw_531
set_option maxRecDepth 20000 in
theorem jw_532 : (Cond.fieldLink RJ5 18 "java/lang/String" "COMPACT_STRINGS" "Z") ∈ mW := mtb_3 (List.mem_of_getElem? (i := 13) rfl) rfl
theorem jfl_J5_18 : (Cond.fieldLink RJ5 18 "java/lang/String" "COMPACT_STRINGS" "Z") ∈ mW := jw_532
set_option maxRecDepth 20000 in
theorem jw_541 : (Cond.fieldLink RJ5 15 "java/lang/AbstractStringBuilder" "value" "[B") ∈ mW := mtb_3 (List.mem_of_getElem? (i := 22) rfl) rfl
theorem jf_J5_15 : mFd RJ5 15 1 0 RJ4 TJ4 4 (.array .byte) := ⟨kinJ4, ⟨_, tyJ4_ok⟩, nmJ4, rfl, by decide, jw_541, by decide +kernel⟩
set_option maxRecDepth 20000 in
theorem jw_542 : (Cond.fieldLink RJ5 22 "java/lang/AbstractStringBuilder" "coder" "B") ∈ mW := mtb_3 (List.mem_of_getElem? (i := 23) rfl) rfl
theorem jf_J5_22 : mFd RJ5 22 1 1 RJ4 TJ4 4 .byte := ⟨kinJ4, ⟨_, tyJ4_ok⟩, nmJ4, rfl, by decide, jw_542, by decide +kernel⟩
set_option maxRecDepth 20000 in
theorem jw_544 : (Cond.fieldLink RJ5 79 "java/lang/AbstractStringBuilder" "count" "I") ∈ mW := mtb_3 (List.mem_of_getElem? (i := 25) rfl) rfl
theorem jf_J5_79 : mFd RJ5 79 1 3 RJ4 TJ4 4 .int := ⟨kinJ4, ⟨_, tyJ4_ok⟩, nmJ4, rfl, by decide, jw_544, by decide +kernel⟩
set_option maxRecDepth 20000 in
theorem jw_554 : (Cond.methodLink RX2 283 Lib.MathLoose.abs_long.x) ∈ mW := mtb_3 (List.mem_of_getElem? (i := 35) rfl) rfl
theorem jl_X2_283 : (Cond.methodLink RX2 283 Lib.MathLoose.abs_long.x) ∈ mW := jw_554
set_option maxRecDepth 20000 in
theorem jw_559 : (Cond.methodLink RX2 290 yJ4_append_cf468) ∈ mW := mtb_3 (List.mem_of_getElem? (i := 40) rfl) rfl
set_option maxRecDepth 20000 in
theorem jw_560 : (Cond.instanceMethod yJ4_append_cf468) ∈ mW := mtb_3 (List.mem_of_getElem? (i := 41) rfl) rfl
set_option maxRecDepth 20000 in
theorem jw_561 : (Cond.selects RJ4 yJ4_append_cf468 yJ4_append_cf468) ∈ mW := mtb_3 (List.mem_of_getElem? (i := 42) rfl) rfl
set_option maxRecDepth 20000 in
theorem jw_562 : (Cond.code yJ4_append_cf468 cJ4_append_cf468 2 (some (.object "java/lang/StringBuilder"))) ∈ mW := mtb_3 (List.mem_of_getElem? (i := 43) rfl) rfl
theorem jv_X2_290 : mWV RX2 290 yJ4_append_cf468 cJ4_append_cf468 2 (some (.object "java/lang/StringBuilder")) 1 := ⟨jw_559, jw_560, jw_561, jw_51, jw_562, ⟨by decide +kernel, by decide +kernel⟩, by decide +kernel⟩
set_option maxRecDepth 20000 in
theorem jw_563 : (Cond.methodLink RJ4 50 yJ5_append_3fe6f) ∈ mW := mtb_3 (List.mem_of_getElem? (i := 44) rfl) rfl
set_option maxRecDepth 20000 in
theorem jw_564 : (Cond.instanceMethod yJ5_append_3fe6f) ∈ mW := mtb_3 (List.mem_of_getElem? (i := 45) rfl) rfl
set_option maxRecDepth 20000 in
theorem jw_1398 : (Cond.sameMethod RJ5 RJ5 "append" "(C)Ljava/lang/AbstractStringBuilder;") ∈ mW := mtb_6 (List.mem_of_getElem? (i := 159) rfl) rfl
set_option maxRecDepth 20000 in
theorem jw_553 : (Cond.superclass RJ4 RJ5) ∈ mW := mtb_3 (List.mem_of_getElem? (i := 34) rfl) rfl
set_option maxRecDepth 20000 in
theorem jw_565 : (Cond.code yJ5_append_3fe6f cJ5_append_3fe6f 2 (some (.object "java/lang/AbstractStringBuilder"))) ∈ mW := mtb_3 (List.mem_of_getElem? (i := 46) rfl) rfl
theorem jsu_J4_50 : mWSU RJ4 50 yJ5_append_3fe6f cJ5_append_3fe6f 2 (some (.object "java/lang/AbstractStringBuilder")) 1 := ⟨jw_563, jw_1398, jw_553, jw_564, jw_50, jw_565, by decide +kernel, by decide +kernel⟩
set_option maxRecDepth 20000 in
theorem jw_566 : (Cond.methodLink RJ5 100 yJ5_ensureCapacityInternal_d00df) ∈ mW := mtb_3 (List.mem_of_getElem? (i := 47) rfl) rfl
set_option maxRecDepth 20000 in
theorem jw_568 : (Cond.instanceMethod yJ5_ensureCapacityInternal_d00df) ∈ mW := mtb_3 (List.mem_of_getElem? (i := 49) rfl) rfl
set_option maxRecDepth 20000 in
theorem jw_1399 : (Cond.sameMethod RJ5 RJ5 "ensureCapacityInternal" "(I)V") ∈ mW := mtb_6 (List.mem_of_getElem? (i := 160) rfl) rfl
set_option maxRecDepth 20000 in
theorem jw_567 : (Cond.privateMethod yJ5_ensureCapacityInternal_d00df) ∈ mW := mtb_3 (List.mem_of_getElem? (i := 48) rfl) rfl
set_option maxRecDepth 20000 in
theorem jw_604 : (Cond.selects RJ4 yJ5_isLatin1_aae02 yJ5_isLatin1_aae02) ∈ mW := mtb_3 (List.mem_of_getElem? (i := 85) rfl) rfl
set_option maxRecDepth 20000 in
theorem jw_569 : (Cond.code yJ5_ensureCapacityInternal_d00df cJ5_ensureCapacityInternal_d00df 3 none) ∈ mW := mtb_3 (List.mem_of_getElem? (i := 50) rfl) rfl
theorem ju_J5_100 : mWU RJ5 RJ4 100 yJ5_ensureCapacityInternal_d00df yJ5_ensureCapacityInternal_d00df cJ5_ensureCapacityInternal_d00df 3 none 1 := ⟨jw_566, jw_1399, ⟨jw_568, _, _, _, jw_569⟩, Or.inr ⟨rfl, jw_567, yJ5_isLatin1_aae02, rfl, jw_604⟩, jw_568, jw_50, jw_569, ⟨by decide +kernel, by decide +kernel⟩, by decide +kernel⟩
set_option maxRecDepth 20000 in
theorem jw_570 : (Cond.methodLink RJ5 104 yJ5_newCapacity_0f7a4) ∈ mW := mtb_3 (List.mem_of_getElem? (i := 51) rfl) rfl
set_option maxRecDepth 20000 in
theorem jw_572 : (Cond.instanceMethod yJ5_newCapacity_0f7a4) ∈ mW := mtb_3 (List.mem_of_getElem? (i := 53) rfl) rfl
set_option maxRecDepth 20000 in
theorem jw_1400 : (Cond.sameMethod RJ5 RJ5 "newCapacity" "(I)I") ∈ mW := mtb_6 (List.mem_of_getElem? (i := 161) rfl) rfl
set_option maxRecDepth 20000 in
theorem jw_571 : (Cond.privateMethod yJ5_newCapacity_0f7a4) ∈ mW := mtb_3 (List.mem_of_getElem? (i := 52) rfl) rfl
set_option maxRecDepth 20000 in
theorem jw_573 : (Cond.code yJ5_newCapacity_0f7a4 cJ5_newCapacity_0f7a4 6 (some .int)) ∈ mW := mtb_3 (List.mem_of_getElem? (i := 54) rfl) rfl
theorem ju_J5_104 : mWU RJ5 RJ4 104 yJ5_newCapacity_0f7a4 yJ5_newCapacity_0f7a4 cJ5_newCapacity_0f7a4 6 (some .int) 1 := ⟨jw_570, jw_1400, ⟨jw_572, _, _, _, jw_573⟩, Or.inr ⟨rfl, jw_571, yJ5_isLatin1_aae02, rfl, jw_604⟩, jw_572, jw_50, jw_573, ⟨by decide +kernel, by decide +kernel⟩, by decide +kernel⟩
set_option maxRecDepth 20000 in
theorem jw_574 : (Cond.methodLink RJ5 114 yJ8_newLength_cabcc) ∈ mW := mtb_3 (List.mem_of_getElem? (i := 55) rfl) rfl
set_option maxRecDepth 20000 in
theorem jw_54 : (Cond.initialized RJ8) ∈ mW := mtb_1 (List.mem_of_getElem? (i := 15) rfl) rfl
set_option maxRecDepth 20000 in
theorem jw_575 : (Cond.static yJ8_newLength_cabcc) ∈ mW := mtb_3 (List.mem_of_getElem? (i := 56) rfl) rfl
set_option maxRecDepth 20000 in
theorem jw_576 : (Cond.code yJ8_newLength_cabcc cJ8_newLength_cabcc 4 (some .int)) ∈ mW := mtb_3 (List.mem_of_getElem? (i := 57) rfl) rfl
theorem js_J5_114 : mWS RJ5 114 yJ8_newLength_cabcc cJ8_newLength_cabcc 4 (some .int) 3 := ⟨jw_574, jw_575, jw_54, jw_576, ⟨by decide +kernel, by decide +kernel⟩, by decide +kernel⟩
set_option maxRecDepth 20000 in
theorem jw_577 : (Cond.methodLink RJ8 194 Lib.Math.max.name) ∈ mW := mtb_3 (List.mem_of_getElem? (i := 58) rfl) rfl
theorem jl_J8_194 : (Cond.methodLink RJ8 194 Lib.Math.max.name) ∈ mW := jw_577
set_option maxRecDepth 20000 in
theorem jw_580 : (Cond.constant RJ8 200 (2147483639)) ∈ mW := mtb_3 (List.mem_of_getElem? (i := 61) rfl) rfl
theorem jc_J8_200 : (Cond.constant RJ8 200 (2147483639)) ∈ mW := jw_580
set_option maxRecDepth 20000 in
theorem jw_584 : (Cond.constant RJ5 39 (2147483647)) ∈ mW := mtb_3 (List.mem_of_getElem? (i := 65) rfl) rfl
theorem jc_J5_39 : (Cond.constant RJ5 39 (2147483647)) ∈ mW := jw_584
set_option maxRecDepth 20000 in
theorem jw_585 : (Cond.methodLink RJ5 108 yJ7_copyOf_9075b) ∈ mW := mtb_3 (List.mem_of_getElem? (i := 66) rfl) rfl
set_option maxRecDepth 20000 in
theorem jw_55 : (Cond.initialized RJ7) ∈ mW := mtb_1 (List.mem_of_getElem? (i := 16) rfl) rfl
set_option maxRecDepth 20000 in
theorem jw_586 : (Cond.static yJ7_copyOf_9075b) ∈ mW := mtb_3 (List.mem_of_getElem? (i := 67) rfl) rfl
set_option maxRecDepth 20000 in
theorem jw_587 : (Cond.code yJ7_copyOf_9075b cJ7_copyOf_9075b 3 (some (.array .byte))) ∈ mW := mtb_3 (List.mem_of_getElem? (i := 68) rfl) rfl
theorem js_J5_108 : mWS RJ5 108 yJ7_copyOf_9075b cJ7_copyOf_9075b 3 (some (.array .byte)) 2 := ⟨jw_585, jw_586, jw_55, jw_587, ⟨by decide +kernel, by decide +kernel⟩, by decide +kernel⟩
set_option maxRecDepth 20000 in
theorem jw_588 : (Cond.methodLink RJ7 310 ⟨"[B", "clone", "()Ljava/lang/Object;"⟩) ∈ mW := mtb_3 (List.mem_of_getElem? (i := 69) rfl) rfl
theorem jl_J7_310 : (Cond.methodLink RJ7 310 ⟨"[B", "clone", "()Ljava/lang/Object;"⟩) ∈ mW := jw_588
set_option maxRecDepth 20000 in
theorem jw_594 : (Cond.classLink RJ7 311 "[B") ∈ mW := mtb_3 (List.mem_of_getElem? (i := 75) rfl) rfl
theorem jk_J7_311 : (Cond.classLink RJ7 311 "[B") ∈ mW := jw_594
set_option maxRecDepth 20000 in
theorem jw_595 : (Cond.methodLink RJ7 304 Lib.Math.min.name) ∈ mW := mtb_3 (List.mem_of_getElem? (i := 76) rfl) rfl
theorem jl_J7_304 : (Cond.methodLink RJ7 304 Lib.Math.min.name) ∈ mW := jw_595
set_option maxRecDepth 20000 in
theorem jw_598 : (Cond.methodLink RJ7 150 arraycopyName) ∈ mW := mtb_3 (List.mem_of_getElem? (i := 79) rfl) rfl
theorem jl_J7_150 : (Cond.methodLink RJ7 150 arraycopyName) ∈ mW := jw_598
set_option maxRecDepth 20000 in
theorem jw_601 : (Cond.methodLink RJ5 83 yJ5_isLatin1_aae02) ∈ mW := mtb_3 (List.mem_of_getElem? (i := 82) rfl) rfl
set_option maxRecDepth 20000 in
theorem jw_602 : (Cond.instanceMethod yJ5_isLatin1_aae02) ∈ mW := mtb_3 (List.mem_of_getElem? (i := 83) rfl) rfl
set_option maxRecDepth 20000 in
theorem jw_603 : (Cond.sameMethod RJ5 RJ5 "isLatin1" "()Z") ∈ mW := mtb_3 (List.mem_of_getElem? (i := 84) rfl) rfl
set_option maxRecDepth 20000 in
theorem jw_605 : (Cond.code yJ5_isLatin1_aae02 cJ5_isLatin1_aae02 1 (some .boolean)) ∈ mW := mtb_3 (List.mem_of_getElem? (i := 86) rfl) rfl
theorem ju_J5_83 : mWU RJ5 RJ4 83 yJ5_isLatin1_aae02 yJ5_isLatin1_aae02 cJ5_isLatin1_aae02 1 (some .boolean) 0 := ⟨jw_601, jw_603, ⟨jw_602, _, _, _, jw_605⟩, Or.inl jw_604, jw_602, jw_50, jw_605, ⟨by decide +kernel, by decide +kernel⟩, by decide +kernel⟩
set_option maxRecDepth 20000 in
theorem jw_606 : (Cond.methodLink RJ5 191 yJ1_canEncode_fc78d) ∈ mW := mtb_3 (List.mem_of_getElem? (i := 87) rfl) rfl
set_option maxRecDepth 20000 in
theorem jw_57 : (Cond.initialized RJ1) ∈ mW := mtb_1 (List.mem_of_getElem? (i := 18) rfl) rfl
set_option maxRecDepth 20000 in
theorem jw_607 : (Cond.static yJ1_canEncode_fc78d) ∈ mW := mtb_3 (List.mem_of_getElem? (i := 88) rfl) rfl
set_option maxRecDepth 20000 in
theorem jw_608 : (Cond.code yJ1_canEncode_fc78d cJ1_canEncode_fc78d 1 (some .boolean)) ∈ mW := mtb_3 (List.mem_of_getElem? (i := 89) rfl) rfl
theorem js_J5_191 : mWS RJ5 191 yJ1_canEncode_fc78d cJ1_canEncode_fc78d 1 (some .boolean) 1 := ⟨jw_606, jw_607, jw_57, jw_608, ⟨by decide +kernel, by decide +kernel⟩, by decide +kernel⟩
set_option maxRecDepth 20000 in
theorem jw_654 : (Cond.methodLink RX2 294 yJ4_reverse_43fcb) ∈ mW := mtb_3 (List.mem_of_getElem? (i := 135) rfl) rfl
set_option maxRecDepth 20000 in
theorem jw_655 : (Cond.instanceMethod yJ4_reverse_43fcb) ∈ mW := mtb_3 (List.mem_of_getElem? (i := 136) rfl) rfl
set_option maxRecDepth 20000 in
theorem jw_656 : (Cond.selects RJ4 yJ4_reverse_43fcb yJ4_reverse_43fcb) ∈ mW := mtb_3 (List.mem_of_getElem? (i := 137) rfl) rfl
set_option maxRecDepth 20000 in
theorem jw_657 : (Cond.code yJ4_reverse_43fcb cJ4_reverse_43fcb 1 (some (.object "java/lang/StringBuilder"))) ∈ mW := mtb_3 (List.mem_of_getElem? (i := 138) rfl) rfl
theorem jv_X2_294 : mWV RX2 294 yJ4_reverse_43fcb cJ4_reverse_43fcb 1 (some (.object "java/lang/StringBuilder")) 0 := ⟨jw_654, jw_655, jw_656, jw_51, jw_657, ⟨by decide +kernel, by decide +kernel⟩, by decide +kernel⟩
set_option maxRecDepth 20000 in
theorem jw_658 : (Cond.methodLink RJ4 127 yJ5_reverse_278bc) ∈ mW := mtb_3 (List.mem_of_getElem? (i := 139) rfl) rfl
set_option maxRecDepth 20000 in
theorem jw_659 : (Cond.instanceMethod yJ5_reverse_278bc) ∈ mW := mtb_3 (List.mem_of_getElem? (i := 140) rfl) rfl
set_option maxRecDepth 20000 in
theorem jw_1402 : (Cond.sameMethod RJ5 RJ5 "reverse" "()Ljava/lang/AbstractStringBuilder;") ∈ mW := mtb_6 (List.mem_of_getElem? (i := 163) rfl) rfl
set_option maxRecDepth 20000 in
theorem jw_660 : (Cond.code yJ5_reverse_278bc cJ5_reverse_278bc 7 (some (.object "java/lang/AbstractStringBuilder"))) ∈ mW := mtb_3 (List.mem_of_getElem? (i := 141) rfl) rfl
theorem jsu_J4_127 : mWSU RJ4 127 yJ5_reverse_278bc cJ5_reverse_278bc 7 (some (.object "java/lang/AbstractStringBuilder")) 0 := ⟨jw_658, jw_1402, jw_553, jw_659, jw_50, jw_660, by decide +kernel, by decide +kernel⟩
set_option maxRecDepth 20000 in
theorem jw_691 : (Cond.methodLink RX2 298 yJ4_toString_0e30d) ∈ mW := mtb_3 (List.mem_of_getElem? (i := 172) rfl) rfl
set_option maxRecDepth 20000 in
theorem jw_692 : (Cond.instanceMethod yJ4_toString_0e30d) ∈ mW := mtb_3 (List.mem_of_getElem? (i := 173) rfl) rfl
set_option maxRecDepth 20000 in
theorem jw_693 : (Cond.selects RJ4 yJ4_toString_0e30d yJ4_toString_0e30d) ∈ mW := mtb_3 (List.mem_of_getElem? (i := 174) rfl) rfl
set_option maxRecDepth 20000 in
theorem jw_694 : (Cond.code yJ4_toString_0e30d cJ4_toString_0e30d 1 (some (.object "java/lang/String"))) ∈ mW := mtb_3 (List.mem_of_getElem? (i := 175) rfl) rfl
theorem jv_X2_298 : mWV RX2 298 yJ4_toString_0e30d cJ4_toString_0e30d 1 (some (.object "java/lang/String")) 0 := ⟨jw_691, jw_692, jw_693, jw_51, jw_694, ⟨by decide +kernel, by decide +kernel⟩, by decide +kernel⟩
set_option maxRecDepth 20000 in
theorem jw_695 : (Cond.classLink RJ4 18 "java/lang/String") ∈ mW := mtb_3 (List.mem_of_getElem? (i := 176) rfl) rfl
theorem jk_J4_18 : (Cond.classLink RJ4 18 "java/lang/String") ∈ mW := jw_695
set_option maxRecDepth 20000 in
theorem jw_696 : (Cond.instantiable RJ0 4) ∈ mW := mtb_3 (List.mem_of_getElem? (i := 177) rfl) rfl
theorem jn_J0 : (Cond.instantiable RJ0 4) ∈ mW := jw_696
set_option maxRecDepth 20000 in
theorem jw_697 : (Cond.methodLink RJ4 137 yJ0_init_81219) ∈ mW := mtb_3 (List.mem_of_getElem? (i := 178) rfl) rfl
set_option maxRecDepth 20000 in
theorem jw_698 : (Cond.instanceMethod yJ0_init_81219) ∈ mW := mtb_3 (List.mem_of_getElem? (i := 179) rfl) rfl
set_option maxRecDepth 20000 in
theorem jw_699 : (Cond.code yJ0_init_81219 cJ0_init_81219 2 none) ∈ mW := mtb_3 (List.mem_of_getElem? (i := 180) rfl) rfl
theorem ji_J4_137 : mWI RJ4 137 yJ0_init_81219 cJ0_init_81219 2 1 := ⟨jw_697, jw_698, jw_52, jw_699, ⟨by decide +kernel, by decide +kernel⟩, by decide +kernel, rfl⟩
set_option maxRecDepth 20000 in
theorem jw_700 : (Cond.methodLink RJ0 489 yJ0_init_db425) ∈ mW := mtb_3 (List.mem_of_getElem? (i := 181) rfl) rfl
set_option maxRecDepth 20000 in
theorem jw_701 : (Cond.instanceMethod yJ0_init_db425) ∈ mW := mtb_3 (List.mem_of_getElem? (i := 182) rfl) rfl
set_option maxRecDepth 20000 in
theorem jw_702 : (Cond.code yJ0_init_db425 cJ0_init_db425 5 none) ∈ mW := mtb_3 (List.mem_of_getElem? (i := 183) rfl) rfl
theorem ji_J0_489 : mWI RJ0 489 yJ0_init_db425 cJ0_init_db425 5 2 := ⟨jw_700, jw_701, jw_52, jw_702, ⟨by decide +kernel, by decide +kernel⟩, by decide +kernel, rfl⟩
set_option maxRecDepth 20000 in
theorem jw_703 : (Cond.methodLink RJ0 1 Lib.objectInit) ∈ mW := mtb_3 (List.mem_of_getElem? (i := 184) rfl) rfl
theorem job_J0 : (Cond.methodLink RJ0 1 Lib.objectInit) ∈ mW := jw_703
set_option maxRecDepth 20000 in
theorem jw_704 : (Cond.methodLink RJ0 552 yJ5_getValue_6d5f1) ∈ mW := mtb_3 (List.mem_of_getElem? (i := 185) rfl) rfl
set_option maxRecDepth 20000 in
theorem jw_705 : (Cond.instanceMethod yJ5_getValue_6d5f1) ∈ mW := mtb_3 (List.mem_of_getElem? (i := 186) rfl) rfl
set_option maxRecDepth 20000 in
theorem jw_706 : (Cond.sameMethod RJ5 RJ5 "getValue" "()[B") ∈ mW := mtb_3 (List.mem_of_getElem? (i := 187) rfl) rfl
set_option maxRecDepth 20000 in
theorem jw_707 : (Cond.selects RJ4 yJ5_getValue_6d5f1 yJ5_getValue_6d5f1) ∈ mW := mtb_3 (List.mem_of_getElem? (i := 188) rfl) rfl
set_option maxRecDepth 20000 in
theorem jw_708 : (Cond.code yJ5_getValue_6d5f1 cJ5_getValue_6d5f1 1 (some (.array .byte))) ∈ mW := mtb_3 (List.mem_of_getElem? (i := 189) rfl) rfl
theorem ju_J0_552 : mWU RJ0 RJ4 552 yJ5_getValue_6d5f1 yJ5_getValue_6d5f1 cJ5_getValue_6d5f1 1 (some (.array .byte)) 0 := ⟨jw_704, jw_706, ⟨jw_705, _, _, _, jw_708⟩, Or.inl jw_707, jw_705, jw_50, jw_708, ⟨by decide +kernel, by decide +kernel⟩, by decide +kernel⟩
set_option maxRecDepth 20000 in
theorem jw_709 : (Cond.methodLink RJ0 549 yJ5_length_8abf5) ∈ mW := mtb_3 (List.mem_of_getElem? (i := 190) rfl) rfl
set_option maxRecDepth 20000 in
theorem jw_710 : (Cond.instanceMethod yJ5_length_8abf5) ∈ mW := mtb_3 (List.mem_of_getElem? (i := 191) rfl) rfl
set_option maxRecDepth 20000 in
theorem jw_711 : (Cond.sameMethod RJ5 RJ5 "length" "()I") ∈ mW := mtb_3 (List.mem_of_getElem? (i := 192) rfl) rfl
set_option maxRecDepth 20000 in
theorem jw_712 : (Cond.selects RJ4 yJ5_length_8abf5 yJ4_length_8abf5) ∈ mW := mtb_3 (List.mem_of_getElem? (i := 193) rfl) rfl
set_option maxRecDepth 20000 in
theorem jw_713 : (Cond.instanceMethod yJ4_length_8abf5) ∈ mW := mtb_3 (List.mem_of_getElem? (i := 194) rfl) rfl
set_option maxRecDepth 20000 in
theorem jw_716 : (Cond.code yJ5_length_8abf5 cJ5_length_8abf5 1 (some .int)) ∈ mW := mtb_3 (List.mem_of_getElem? (i := 197) rfl) rfl
set_option maxRecDepth 20000 in
theorem jw_714 : (Cond.code yJ4_length_8abf5 cJ4_length_8abf5 1 (some .int)) ∈ mW := mtb_3 (List.mem_of_getElem? (i := 195) rfl) rfl
theorem ju_J0_549 : mWU RJ0 RJ4 549 yJ5_length_8abf5 yJ4_length_8abf5 cJ4_length_8abf5 1 (some .int) 0 := ⟨jw_709, jw_711, ⟨jw_710, _, _, _, jw_716⟩, Or.inl jw_712, jw_713, jw_51, jw_714, ⟨by decide +kernel, by decide +kernel⟩, by decide +kernel⟩
set_option maxRecDepth 20000 in
theorem jw_715 : (Cond.methodLink RJ4 343 yJ5_length_8abf5) ∈ mW := mtb_3 (List.mem_of_getElem? (i := 196) rfl) rfl
theorem jsu_J4_343 : mWSU RJ4 343 yJ5_length_8abf5 cJ5_length_8abf5 1 (some .int) 0 := ⟨jw_715, jw_711, jw_553, jw_710, jw_50, jw_716, by decide +kernel, by decide +kernel⟩
set_option maxRecDepth 20000 in
theorem jw_717 : (Cond.methodLink RJ0 1047 yJ5_isLatin1_aae02) ∈ mW := mtb_3 (List.mem_of_getElem? (i := 198) rfl) rfl
theorem ju_J0_1047 : mWU RJ0 RJ4 1047 yJ5_isLatin1_aae02 yJ5_isLatin1_aae02 cJ5_isLatin1_aae02 1 (some .boolean) 0 := ⟨jw_717, jw_603, ⟨jw_602, _, _, _, jw_605⟩, Or.inl jw_604, jw_602, jw_50, jw_605, ⟨by decide +kernel, by decide +kernel⟩, by decide +kernel⟩
set_option maxRecDepth 20000 in
theorem jw_718 : (Cond.methodLink RJ0 54 yJ7_copyOfRange_39247) ∈ mW := mtb_3 (List.mem_of_getElem? (i := 199) rfl) rfl
set_option maxRecDepth 20000 in
theorem jw_719 : (Cond.static yJ7_copyOfRange_39247) ∈ mW := mtb_3 (List.mem_of_getElem? (i := 200) rfl) rfl
set_option maxRecDepth 20000 in
theorem jw_720 : (Cond.code yJ7_copyOfRange_39247 cJ7_copyOfRange_39247 3 (some (.array .byte))) ∈ mW := mtb_3 (List.mem_of_getElem? (i := 201) rfl) rfl
theorem js_J0_54 : mWS RJ0 54 yJ7_copyOfRange_39247 cJ7_copyOfRange_39247 3 (some (.array .byte)) 3 := ⟨jw_718, jw_719, jw_55, jw_720, ⟨by decide +kernel, by decide +kernel⟩, by decide +kernel⟩
set_option maxRecDepth 20000 in
theorem jw_721 : (Cond.methodLink RJ7 339 yJ7_copyOfRangeByte_39247) ∈ mW := mtb_3 (List.mem_of_getElem? (i := 202) rfl) rfl
set_option maxRecDepth 20000 in
theorem jw_722 : (Cond.static yJ7_copyOfRangeByte_39247) ∈ mW := mtb_3 (List.mem_of_getElem? (i := 203) rfl) rfl
set_option maxRecDepth 20000 in
theorem jw_723 : (Cond.code yJ7_copyOfRangeByte_39247 cJ7_copyOfRangeByte_39247 5 (some (.array .byte))) ∈ mW := mtb_3 (List.mem_of_getElem? (i := 204) rfl) rfl
theorem js_J7_339 : mWS RJ7 339 yJ7_copyOfRangeByte_39247 cJ7_copyOfRangeByte_39247 5 (some (.array .byte)) 3 := ⟨jw_721, jw_722, jw_55, jw_723, ⟨by decide +kernel, by decide +kernel⟩, by decide +kernel⟩
set_option maxRecDepth 20000 in
theorem jw_724 : (Cond.methodLink RJ7 343 yJ7_checkLength_df160) ∈ mW := mtb_3 (List.mem_of_getElem? (i := 205) rfl) rfl
set_option maxRecDepth 20000 in
theorem jw_725 : (Cond.static yJ7_checkLength_df160) ∈ mW := mtb_3 (List.mem_of_getElem? (i := 206) rfl) rfl
set_option maxRecDepth 20000 in
theorem jw_726 : (Cond.code yJ7_checkLength_df160 cJ7_checkLength_df160 2 none) ∈ mW := mtb_3 (List.mem_of_getElem? (i := 207) rfl) rfl
theorem js_J7_343 : mWS RJ7 343 yJ7_checkLength_df160 cJ7_checkLength_df160 2 none 2 := ⟨jw_724, jw_725, jw_55, jw_726, ⟨by decide +kernel, by decide +kernel⟩, by decide +kernel⟩
set_option maxRecDepth 20000 in
theorem jw_763 : (Cond.instanceMethod yJ4_append_15ec4) ∈ mW := mtb_4 (List.mem_of_getElem? (i := 4) rfl) rfl
set_option maxRecDepth 20000 in
theorem jw_764 : (Cond.selects RJ4 yJ4_append_15ec4 yJ4_append_15ec4) ∈ mW := mtb_4 (List.mem_of_getElem? (i := 5) rfl) rfl
set_option maxRecDepth 20000 in
theorem jw_765 : (Cond.code yJ4_append_15ec4 cJ4_append_15ec4 2 (some (.object "java/lang/StringBuilder"))) ∈ mW := mtb_4 (List.mem_of_getElem? (i := 6) rfl) rfl
set_option maxRecDepth 20000 in
theorem jw_766 : (Cond.methodLink RJ4 29 yJ5_append_cf1ce) ∈ mW := mtb_4 (List.mem_of_getElem? (i := 7) rfl) rfl
set_option maxRecDepth 20000 in
theorem jw_767 : (Cond.instanceMethod yJ5_append_cf1ce) ∈ mW := mtb_4 (List.mem_of_getElem? (i := 8) rfl) rfl
set_option maxRecDepth 20000 in
theorem jw_1404 : (Cond.sameMethod RJ5 RJ5 "append" "(Ljava/lang/String;)Ljava/lang/AbstractStringBuilder;") ∈ mW := mtb_6 (List.mem_of_getElem? (i := 165) rfl) rfl
set_option maxRecDepth 20000 in
theorem jw_768 : (Cond.code yJ5_append_cf1ce cJ5_append_cf1ce 3 (some (.object "java/lang/AbstractStringBuilder"))) ∈ mW := mtb_4 (List.mem_of_getElem? (i := 9) rfl) rfl
theorem jsu_J4_29 : mWSU RJ4 29 yJ5_append_cf1ce cJ5_append_cf1ce 3 (some (.object "java/lang/AbstractStringBuilder")) 1 := ⟨jw_766, jw_1404, jw_553, jw_767, jw_50, jw_768, by decide +kernel, by decide +kernel⟩
set_option maxRecDepth 20000 in
theorem jw_776 : (Cond.methodLink RJ5 32 yJ0_length_8abf5) ∈ mW := mtb_4 (List.mem_of_getElem? (i := 17) rfl) rfl
set_option maxRecDepth 20000 in
theorem jw_777 : (Cond.instanceMethod yJ0_length_8abf5) ∈ mW := mtb_4 (List.mem_of_getElem? (i := 18) rfl) rfl
set_option maxRecDepth 20000 in
theorem jw_778 : (Cond.selects RJ0 yJ0_length_8abf5 yJ0_length_8abf5) ∈ mW := mtb_4 (List.mem_of_getElem? (i := 19) rfl) rfl
set_option maxRecDepth 20000 in
theorem jw_779 : (Cond.code yJ0_length_8abf5 cJ0_length_8abf5 1 (some .int)) ∈ mW := mtb_4 (List.mem_of_getElem? (i := 20) rfl) rfl
theorem jv_J5_32 : mWV RJ5 32 yJ0_length_8abf5 cJ0_length_8abf5 1 (some .int) 0 := ⟨jw_776, jw_777, jw_778, jw_52, jw_779, ⟨by decide +kernel, by decide +kernel⟩, by decide +kernel⟩
set_option maxRecDepth 20000 in
theorem jw_780 : (Cond.methodLink RJ0 335 yJ0_coder_7d493) ∈ mW := mtb_4 (List.mem_of_getElem? (i := 21) rfl) rfl
set_option maxRecDepth 20000 in
theorem jw_781 : (Cond.instanceMethod yJ0_coder_7d493) ∈ mW := mtb_4 (List.mem_of_getElem? (i := 22) rfl) rfl
set_option maxRecDepth 20000 in
theorem jw_782 : (Cond.selects RJ0 yJ0_coder_7d493 yJ0_coder_7d493) ∈ mW := mtb_4 (List.mem_of_getElem? (i := 23) rfl) rfl
set_option maxRecDepth 20000 in
theorem jw_783 : (Cond.code yJ0_coder_7d493 cJ0_coder_7d493 1 (some .byte)) ∈ mW := mtb_4 (List.mem_of_getElem? (i := 24) rfl) rfl
theorem jv_J0_335 : mWV RJ0 335 yJ0_coder_7d493 cJ0_coder_7d493 1 (some .byte) 0 := ⟨jw_780, jw_781, jw_782, jw_52, jw_783, ⟨by decide +kernel, by decide +kernel⟩, by decide +kernel⟩
set_option maxRecDepth 20000 in
theorem jw_784 : (Cond.fieldLink RJ0 38 "java/lang/String" "COMPACT_STRINGS" "Z") ∈ mW := mtb_4 (List.mem_of_getElem? (i := 25) rfl) rfl
theorem jfl_J0_38 : (Cond.fieldLink RJ0 38 "java/lang/String" "COMPACT_STRINGS" "Z") ∈ mW := jw_784
set_option maxRecDepth 20000 in
theorem jw_785 : (Cond.methodLink RJ5 208 yJ5_putStringAt_47b60) ∈ mW := mtb_4 (List.mem_of_getElem? (i := 26) rfl) rfl
set_option maxRecDepth 20000 in
theorem jw_787 : (Cond.instanceMethod yJ5_putStringAt_47b60) ∈ mW := mtb_4 (List.mem_of_getElem? (i := 28) rfl) rfl
set_option maxRecDepth 20000 in
theorem jw_1406 : (Cond.sameMethod RJ5 RJ5 "putStringAt" "(ILjava/lang/String;)V") ∈ mW := mtb_6 (List.mem_of_getElem? (i := 167) rfl) rfl
set_option maxRecDepth 20000 in
theorem jw_786 : (Cond.privateMethod yJ5_putStringAt_47b60) ∈ mW := mtb_4 (List.mem_of_getElem? (i := 27) rfl) rfl
set_option maxRecDepth 20000 in
theorem jw_788 : (Cond.code yJ5_putStringAt_47b60 cJ5_putStringAt_47b60 3 none) ∈ mW := mtb_4 (List.mem_of_getElem? (i := 29) rfl) rfl
theorem ju_J5_208 : mWU RJ5 RJ4 208 yJ5_putStringAt_47b60 yJ5_putStringAt_47b60 cJ5_putStringAt_47b60 3 none 2 := ⟨jw_785, jw_1406, ⟨jw_787, _, _, _, jw_788⟩, Or.inr ⟨rfl, jw_786, yJ5_isLatin1_aae02, rfl, jw_604⟩, jw_787, jw_50, jw_788, ⟨by decide +kernel, by decide +kernel⟩, by decide +kernel⟩
set_option maxRecDepth 20000 in
theorem jw_789 : (Cond.methodLink RJ5 397 yJ5_inflateIfNeededFor_a7421) ∈ mW := mtb_4 (List.mem_of_getElem? (i := 30) rfl) rfl
set_option maxRecDepth 20000 in
theorem jw_791 : (Cond.instanceMethod yJ5_inflateIfNeededFor_a7421) ∈ mW := mtb_4 (List.mem_of_getElem? (i := 32) rfl) rfl
set_option maxRecDepth 20000 in
theorem jw_1407 : (Cond.sameMethod RJ5 RJ5 "inflateIfNeededFor" "(Ljava/lang/String;)V") ∈ mW := mtb_6 (List.mem_of_getElem? (i := 168) rfl) rfl
set_option maxRecDepth 20000 in
theorem jw_790 : (Cond.privateMethod yJ5_inflateIfNeededFor_a7421) ∈ mW := mtb_4 (List.mem_of_getElem? (i := 31) rfl) rfl
set_option maxRecDepth 20000 in
theorem jw_792 : (Cond.code yJ5_inflateIfNeededFor_a7421 cJ5_inflateIfNeededFor_a7421 2 none) ∈ mW := mtb_4 (List.mem_of_getElem? (i := 33) rfl) rfl
theorem ju_J5_397 : mWU RJ5 RJ4 397 yJ5_inflateIfNeededFor_a7421 yJ5_inflateIfNeededFor_a7421 cJ5_inflateIfNeededFor_a7421 2 none 1 := ⟨jw_789, jw_1407, ⟨jw_791, _, _, _, jw_792⟩, Or.inr ⟨rfl, jw_790, yJ5_isLatin1_aae02, rfl, jw_604⟩, jw_791, jw_50, jw_792, ⟨by decide +kernel, by decide +kernel⟩, by decide +kernel⟩
set_option maxRecDepth 20000 in
theorem jw_793 : (Cond.methodLink RJ5 40 yJ0_coder_7d493) ∈ mW := mtb_4 (List.mem_of_getElem? (i := 34) rfl) rfl
theorem jv_J5_40 : mWV RJ5 40 yJ0_coder_7d493 cJ0_coder_7d493 1 (some .byte) 0 := ⟨jw_793, jw_781, jw_782, jw_52, jw_783, ⟨by decide +kernel, by decide +kernel⟩, by decide +kernel⟩
set_option maxRecDepth 20000 in
theorem jw_794 : (Cond.methodLink RJ5 399 yJ0_getBytes_840e7) ∈ mW := mtb_4 (List.mem_of_getElem? (i := 35) rfl) rfl
set_option maxRecDepth 20000 in
theorem jw_795 : (Cond.instanceMethod yJ0_getBytes_840e7) ∈ mW := mtb_4 (List.mem_of_getElem? (i := 36) rfl) rfl
set_option maxRecDepth 20000 in
theorem jw_796 : (Cond.selects RJ0 yJ0_getBytes_840e7 yJ0_getBytes_840e7) ∈ mW := mtb_4 (List.mem_of_getElem? (i := 37) rfl) rfl
set_option maxRecDepth 20000 in
theorem jw_797 : (Cond.code yJ0_getBytes_840e7 cJ0_getBytes_840e7 4 none) ∈ mW := mtb_4 (List.mem_of_getElem? (i := 38) rfl) rfl
theorem jv_J5_399 : mWV RJ5 399 yJ0_getBytes_840e7 cJ0_getBytes_840e7 4 none 3 := ⟨jw_794, jw_795, jw_796, jw_52, jw_797, ⟨by decide +kernel, by decide +kernel⟩, by decide +kernel⟩
set_option maxRecDepth 20000 in
theorem jw_798 : (Cond.methodLink RJ0 212 arraycopyName) ∈ mW := mtb_4 (List.mem_of_getElem? (i := 39) rfl) rfl
theorem jl_J0_212 : (Cond.methodLink RJ0 212 arraycopyName) ∈ mW := jw_798
set_option maxRecDepth 20000 in
theorem jw_812 : (Cond.fieldLink RJ0 9 "java/lang/String" "value" "[B") ∈ mW := mtb_4 (List.mem_of_getElem? (i := 53) rfl) rfl
theorem jf_J0_9 : mFd RJ0 9 0 0 RJ0 TJ0 4 (.array .byte) := ⟨kinJ0, ⟨_, tyJ0_ok⟩, nmJ0, rfl, by decide, jw_812, by decide +kernel⟩
theorem jfl_J0_9 : (Cond.fieldLink RJ0 9 "java/lang/String" "value" "[B") ∈ mW := jw_812
set_option maxRecDepth 20000 in
theorem jw_813 : (Cond.fieldLink RJ0 15 "java/lang/String" "coder" "B") ∈ mW := mtb_4 (List.mem_of_getElem? (i := 54) rfl) rfl
theorem jf_J0_15 : mFd RJ0 15 0 1 RJ0 TJ0 4 .byte := ⟨kinJ0, ⟨_, tyJ0_ok⟩, nmJ0, rfl, by decide, jw_813, by decide +kernel⟩
theorem jfl_J0_15 : (Cond.fieldLink RJ0 15 "java/lang/String" "coder" "B") ∈ mW := jw_813
set_option maxRecDepth 20000 in
theorem jw_1178 : (Cond.methodLink RX4 123 yJ4_init_da8c8) ∈ mW := mtb_5 (List.mem_of_getElem? (i := 179) rfl) rfl
theorem ji_X4_123 : mWI RX4 123 yJ4_init_da8c8 cJ4_init_da8c8 1 0 := ⟨jw_1178, jw_526, jw_51, jw_527, ⟨by decide +kernel, by decide +kernel⟩, by decide +kernel, rfl⟩
set_option maxRecDepth 20000 in
theorem jw_1179 : (Cond.methodLink RX4 124 yJ4_append_15ec4) ∈ mW := mtb_5 (List.mem_of_getElem? (i := 180) rfl) rfl
theorem jv_X4_124 : mWV RX4 124 yJ4_append_15ec4 cJ4_append_15ec4 2 (some (.object "java/lang/StringBuilder")) 1 := ⟨jw_1179, jw_763, jw_764, jw_51, jw_765, ⟨by decide +kernel, by decide +kernel⟩, by decide +kernel⟩
set_option maxRecDepth 20000 in
theorem jw_1180 : (Cond.methodLink RX4 128 yJ4_append_f7089) ∈ mW := mtb_5 (List.mem_of_getElem? (i := 181) rfl) rfl
set_option maxRecDepth 20000 in
theorem jw_1181 : (Cond.instanceMethod yJ4_append_f7089) ∈ mW := mtb_5 (List.mem_of_getElem? (i := 182) rfl) rfl
set_option maxRecDepth 20000 in
theorem jw_1182 : (Cond.selects RJ4 yJ4_append_f7089 yJ4_append_f7089) ∈ mW := mtb_5 (List.mem_of_getElem? (i := 183) rfl) rfl
set_option maxRecDepth 20000 in
theorem jw_1183 : (Cond.code yJ4_append_f7089 cJ4_append_f7089 3 (some (.object "java/lang/StringBuilder"))) ∈ mW := mtb_5 (List.mem_of_getElem? (i := 184) rfl) rfl
theorem jv_X4_128 : mWV RX4 128 yJ4_append_f7089 cJ4_append_f7089 3 (some (.object "java/lang/StringBuilder")) 1 := ⟨jw_1180, jw_1181, jw_1182, jw_51, jw_1183, ⟨by decide +kernel, by decide +kernel⟩, by decide +kernel⟩
set_option maxRecDepth 20000 in
theorem jw_1184 : (Cond.methodLink RJ4 56 yJ5_append_66267) ∈ mW := mtb_5 (List.mem_of_getElem? (i := 185) rfl) rfl
set_option maxRecDepth 20000 in
theorem jw_1185 : (Cond.instanceMethod yJ5_append_66267) ∈ mW := mtb_5 (List.mem_of_getElem? (i := 186) rfl) rfl
set_option maxRecDepth 20000 in
theorem jw_1408 : (Cond.sameMethod RJ5 RJ5 "append" "(J)Ljava/lang/AbstractStringBuilder;") ∈ mW := mtb_6 (List.mem_of_getElem? (i := 169) rfl) rfl
set_option maxRecDepth 20000 in
theorem jw_1186 : (Cond.code yJ5_append_66267 cJ5_append_66267 5 (some (.object "java/lang/AbstractStringBuilder"))) ∈ mW := mtb_5 (List.mem_of_getElem? (i := 187) rfl) rfl
theorem jsu_J4_56 : mWSU RJ4 56 yJ5_append_66267 cJ5_append_66267 5 (some (.object "java/lang/AbstractStringBuilder")) 1 := ⟨jw_1184, jw_1408, jw_553, jw_1185, jw_50, jw_1186, by decide +kernel, by decide +kernel⟩
set_option maxRecDepth 20000 in
theorem jw_1187 : (Cond.methodLink RJ5 254 yJ13_stringSize_95d88) ∈ mW := mtb_5 (List.mem_of_getElem? (i := 188) rfl) rfl
set_option maxRecDepth 20000 in
theorem jw_61 : (Cond.initialized RJ13) ∈ mW := mtb_1 (List.mem_of_getElem? (i := 22) rfl) rfl
set_option maxRecDepth 20000 in
theorem jw_1188 : (Cond.static yJ13_stringSize_95d88) ∈ mW := mtb_5 (List.mem_of_getElem? (i := 189) rfl) rfl
set_option maxRecDepth 20000 in
theorem jw_1189 : (Cond.code yJ13_stringSize_95d88 cJ13_stringSize_95d88 6 (some .int)) ∈ mW := mtb_5 (List.mem_of_getElem? (i := 190) rfl) rfl
theorem js_J5_254 : mWS RJ5 254 yJ13_stringSize_95d88 cJ13_stringSize_95d88 6 (some .int) 1 := ⟨jw_1187, jw_1188, jw_61, jw_1189, ⟨by decide +kernel, by decide +kernel⟩, by decide +kernel⟩
set_option maxRecDepth 20000 in
theorem jw_1190 : (Cond.constantLong RJ13 140 (-10)) ∈ mW := mtb_5 (List.mem_of_getElem? (i := 191) rfl) rfl
theorem jc_J13_140 : (Cond.constantLong RJ13 140 (-10)) ∈ mW := jw_1190
set_option maxRecDepth 20000 in
theorem jw_1191 : (Cond.constantLong RJ13 53 (10)) ∈ mW := mtb_5 (List.mem_of_getElem? (i := 192) rfl) rfl
theorem jc_J13_53 : (Cond.constantLong RJ13 53 (10)) ∈ mW := jw_1191
set_option maxRecDepth 20000 in
theorem jw_1192 : (Cond.methodLink RJ5 259 yJ13_getChars_11360) ∈ mW := mtb_5 (List.mem_of_getElem? (i := 193) rfl) rfl
set_option maxRecDepth 20000 in
theorem jw_1193 : (Cond.static yJ13_getChars_11360) ∈ mW := mtb_5 (List.mem_of_getElem? (i := 194) rfl) rfl
set_option maxRecDepth 20000 in
theorem jw_1194 : (Cond.code yJ13_getChars_11360 cJ13_getChars_11360 11 (some .int)) ∈ mW := mtb_5 (List.mem_of_getElem? (i := 195) rfl) rfl
theorem js_J5_259 : mWS RJ5 259 yJ13_getChars_11360 cJ13_getChars_11360 11 (some .int) 3 := ⟨jw_1192, jw_1193, jw_61, jw_1194, ⟨by decide +kernel, by decide +kernel⟩, by decide +kernel⟩
set_option maxRecDepth 20000 in
theorem jw_1195 : (Cond.constantLong RJ13 129 (-2147483648)) ∈ mW := mtb_5 (List.mem_of_getElem? (i := 196) rfl) rfl
theorem jc_J13_129 : (Cond.constantLong RJ13 129 (-2147483648)) ∈ mW := jw_1195
set_option maxRecDepth 20000 in
theorem jw_1196 : (Cond.constantLong RJ13 131 (100)) ∈ mW := mtb_5 (List.mem_of_getElem? (i := 197) rfl) rfl
theorem jc_J13_131 : (Cond.constantLong RJ13 131 (100)) ∈ mW := jw_1196
set_option maxRecDepth 20000 in
theorem jw_1197 : (Cond.fieldLink RJ13 133 "java/lang/Integer" "DigitOnes" "[B") ∈ mW := mtb_5 (List.mem_of_getElem? (i := 198) rfl) rfl
theorem jfl_J13_133 : (Cond.fieldLink RJ13 133 "java/lang/Integer" "DigitOnes" "[B") ∈ mW := jw_1197
set_option maxRecDepth 20000 in
theorem jw_1198 : (Cond.fieldLink RJ13 137 "java/lang/Integer" "DigitTens" "[B") ∈ mW := mtb_5 (List.mem_of_getElem? (i := 199) rfl) rfl
theorem jfl_J13_137 : (Cond.fieldLink RJ13 137 "java/lang/Integer" "DigitTens" "[B") ∈ mW := jw_1198
set_option maxRecDepth 20000 in
theorem jw_1207 : (Cond.methodLink RX4 131 yJ4_toString_0e30d) ∈ mW := mtb_5 (List.mem_of_getElem? (i := 208) rfl) rfl
theorem jv_X4_131 : mWV RX4 131 yJ4_toString_0e30d cJ4_toString_0e30d 1 (some (.object "java/lang/String")) 0 := ⟨jw_1207, jw_692, jw_693, jw_51, jw_694, ⟨by decide +kernel, by decide +kernel⟩, by decide +kernel⟩
theorem dJ4_init_da8c8_v0 : (cJ4_init_da8c8.data.toList.drop 0).take 16 = [42, 16, 16, 183, 0, 1, 177] := by decide +kernel
theorem dJ4_init_da8c8_0 : decode cJ4_init_da8c8 0 = .ok (.aload_n 0, 1) := dk_42 (dq_lk dJ4_init_da8c8_v0 (r := 0) (x := 42) rfl)
theorem dJ4_init_da8c8_1 : decode cJ4_init_da8c8 1 = .ok (.bipush 16, 2) := dk_16 (dq_lk dJ4_init_da8c8_v0 (r := 1) (x := 16) rfl) (dq_lk dJ4_init_da8c8_v0 (r := 2) (x := 16) rfl) (by decide +kernel)
theorem dJ4_init_da8c8_3 : decode cJ4_init_da8c8 3 = .ok (.invokespecial 1, 3) := dk_183 (dq_lk dJ4_init_da8c8_v0 (r := 3) (x := 183) rfl) (dq_lk dJ4_init_da8c8_v0 (r := 4) (x := 0) rfl) (dq_lk dJ4_init_da8c8_v0 (r := 5) (x := 1) rfl)
theorem dJ4_init_da8c8_6 : decode cJ4_init_da8c8 6 = .ok (.return_, 1) := dk_177 (dq_lk dJ4_init_da8c8_v0 (r := 6) (x := 177) rfl)
theorem dJ5_init_d00df_v0 : (cJ5_init_d00df.data.toList.drop 0).take 16 = [42, 183, 0, 3, 178, 0, 18, 153, 0, 18, 42, 27, 188, 8, 181, 0] := by decide +kernel
theorem dJ5_init_d00df_v1 : (cJ5_init_d00df.data.toList.drop 16).take 16 = [15, 42, 3, 181, 0, 22, 167, 0, 16, 42, 27, 184, 0, 26, 181, 0] := by decide +kernel
theorem dJ5_init_d00df_v2 : (cJ5_init_d00df.data.toList.drop 32).take 16 = [15, 42, 4, 181, 0, 22, 177] := by decide +kernel
theorem dJ5_init_d00df_0 : decode cJ5_init_d00df 0 = .ok (.aload_n 0, 1) := dk_42 (dq_lk dJ5_init_d00df_v0 (r := 0) (x := 42) rfl)
theorem dJ5_init_d00df_1 : decode cJ5_init_d00df 1 = .ok (.invokespecial 3, 3) := dk_183 (dq_lk dJ5_init_d00df_v0 (r := 1) (x := 183) rfl) (dq_lk dJ5_init_d00df_v0 (r := 2) (x := 0) rfl) (dq_lk dJ5_init_d00df_v0 (r := 3) (x := 3) rfl)
theorem dJ5_init_d00df_4 : decode cJ5_init_d00df 4 = .ok (.getstatic 18, 3) := dk_178 (dq_lk dJ5_init_d00df_v0 (r := 4) (x := 178) rfl) (dq_lk dJ5_init_d00df_v0 (r := 5) (x := 0) rfl) (dq_lk dJ5_init_d00df_v0 (r := 6) (x := 18) rfl)
theorem dJ5_init_d00df_7 : decode cJ5_init_d00df 7 = .ok (.ifCond .eq 18, 3) := dk_153 (dq_lk dJ5_init_d00df_v0 (r := 7) (x := 153) rfl) (dq_lk dJ5_init_d00df_v0 (r := 8) (x := 0) rfl) (dq_lk dJ5_init_d00df_v0 (r := 9) (x := 18) rfl) (by decide +kernel)
theorem dJ5_init_d00df_10 : decode cJ5_init_d00df 10 = .ok (.aload_n 0, 1) := dk_42 (dq_lk dJ5_init_d00df_v0 (r := 10) (x := 42) rfl)
theorem dJ5_init_d00df_11 : decode cJ5_init_d00df 11 = .ok (.iload_n 1, 1) := dk_27 (dq_lk dJ5_init_d00df_v0 (r := 11) (x := 27) rfl)
theorem dJ5_init_d00df_12 : decode cJ5_init_d00df 12 = .ok (.newarray .byte, 2) := by decide +kernel
theorem dJ5_init_d00df_14 : decode cJ5_init_d00df 14 = .ok (.putfield 15, 3) := dk_181 (dq_lk dJ5_init_d00df_v0 (r := 14) (x := 181) rfl) (dq_lk dJ5_init_d00df_v0 (r := 15) (x := 0) rfl) (dq_lk dJ5_init_d00df_v1 (r := 0) (x := 15) rfl)
theorem dJ5_init_d00df_17 : decode cJ5_init_d00df 17 = .ok (.aload_n 0, 1) := dk_42 (dq_lk dJ5_init_d00df_v1 (r := 1) (x := 42) rfl)
theorem dJ5_init_d00df_18 : decode cJ5_init_d00df 18 = .ok (.iconst 0, 1) := dk_3 (dq_lk dJ5_init_d00df_v1 (r := 2) (x := 3) rfl)
theorem dJ5_init_d00df_19 : decode cJ5_init_d00df 19 = .ok (.putfield 22, 3) := dk_181 (dq_lk dJ5_init_d00df_v1 (r := 3) (x := 181) rfl) (dq_lk dJ5_init_d00df_v1 (r := 4) (x := 0) rfl) (dq_lk dJ5_init_d00df_v1 (r := 5) (x := 22) rfl)
theorem dJ5_init_d00df_22 : decode cJ5_init_d00df 22 = .ok (.goto 16, 3) := dk_167 (dq_lk dJ5_init_d00df_v1 (r := 6) (x := 167) rfl) (dq_lk dJ5_init_d00df_v1 (r := 7) (x := 0) rfl) (dq_lk dJ5_init_d00df_v1 (r := 8) (x := 16) rfl) (by decide +kernel)
theorem dJ5_init_d00df_38 : decode cJ5_init_d00df 38 = .ok (.return_, 1) := dk_177 (dq_lk dJ5_init_d00df_v2 (r := 6) (x := 177) rfl)
theorem dJ4_append_cf468_v0 : (cJ4_append_cf468.data.toList.drop 0).take 16 = [42, 27, 183, 0, 50, 87, 42, 176] := by decide +kernel
theorem dJ4_append_cf468_0 : decode cJ4_append_cf468 0 = .ok (.aload_n 0, 1) := dk_42 (dq_lk dJ4_append_cf468_v0 (r := 0) (x := 42) rfl)
theorem dJ4_append_cf468_1 : decode cJ4_append_cf468 1 = .ok (.iload_n 1, 1) := dk_27 (dq_lk dJ4_append_cf468_v0 (r := 1) (x := 27) rfl)
theorem dJ4_append_cf468_2 : decode cJ4_append_cf468 2 = .ok (.invokespecial 50, 3) := dk_183 (dq_lk dJ4_append_cf468_v0 (r := 2) (x := 183) rfl) (dq_lk dJ4_append_cf468_v0 (r := 3) (x := 0) rfl) (dq_lk dJ4_append_cf468_v0 (r := 4) (x := 50) rfl)
theorem dJ4_append_cf468_5 : decode cJ4_append_cf468 5 = .ok (.pop, 1) := dk_87 (dq_lk dJ4_append_cf468_v0 (r := 5) (x := 87) rfl)
theorem dJ4_append_cf468_6 : decode cJ4_append_cf468 6 = .ok (.aload_n 0, 1) := dk_42 (dq_lk dJ4_append_cf468_v0 (r := 6) (x := 42) rfl)
theorem dJ4_append_cf468_7 : decode cJ4_append_cf468 7 = .ok (.areturn, 1) := dk_176 (dq_lk dJ4_append_cf468_v0 (r := 7) (x := 176) rfl)
theorem dJ5_append_3fe6f_w0 : (cJ5_append_3fe6f.data.toList.drop 0).take 64 = [42, 42, 180, 0, 79, 4, 96, 182, 0, 100, 42, 182, 0, 83, 153, 0, 31, 27, 184, 0, 191, 153, 0, 24, 42, 180, 0, 15, 42, 89, 180, 0, 79, 90, 4, 96, 181, 0, 79, 27, 145, 84, 167, 0, 33, 42, 182, 0, 83, 153, 0, 7, 42, 182, 0, 195, 42, 180, 0, 15, 42, 89, 180, 0] := by decide +kernel
theorem dJ5_append_3fe6f_w1 : (cJ5_append_3fe6f.data.toList.drop 64).take 64 = [79, 90, 4, 96, 181, 0, 79, 27, 184, 0, 197, 42, 176] := by decide +kernel
theorem dJ5_append_3fe6f_v0 : (cJ5_append_3fe6f.data.toList.drop 0).take 16 = [42, 42, 180, 0, 79, 4, 96, 182, 0, 100, 42, 182, 0, 83, 153, 0] := dq_sub (n := 0) (j := 0) dJ5_append_3fe6f_w0 (by decide) rfl
theorem dJ5_append_3fe6f_v1 : (cJ5_append_3fe6f.data.toList.drop 16).take 16 = [31, 27, 184, 0, 191, 153, 0, 24, 42, 180, 0, 15, 42, 89, 180, 0] := dq_sub (n := 0) (j := 16) dJ5_append_3fe6f_w0 (by decide) rfl
theorem dJ5_append_3fe6f_v2 : (cJ5_append_3fe6f.data.toList.drop 32).take 16 = [79, 90, 4, 96, 181, 0, 79, 27, 145, 84, 167, 0, 33, 42, 182, 0] := dq_sub (n := 0) (j := 32) dJ5_append_3fe6f_w0 (by decide) rfl
theorem dJ5_append_3fe6f_v4 : (cJ5_append_3fe6f.data.toList.drop 64).take 16 = [79, 90, 4, 96, 181, 0, 79, 27, 184, 0, 197, 42, 176] := dq_sub (n := 64) (j := 0) dJ5_append_3fe6f_w1 (by decide) rfl
theorem dJ5_append_3fe6f_0 : decode cJ5_append_3fe6f 0 = .ok (.aload_n 0, 1) := dk_42 (dq_lk dJ5_append_3fe6f_v0 (r := 0) (x := 42) rfl)
theorem dJ5_append_3fe6f_1 : decode cJ5_append_3fe6f 1 = .ok (.aload_n 0, 1) := dk_42 (dq_lk dJ5_append_3fe6f_v0 (r := 1) (x := 42) rfl)
theorem dJ5_append_3fe6f_2 : decode cJ5_append_3fe6f 2 = .ok (.getfield 79, 3) := dk_180 (dq_lk dJ5_append_3fe6f_v0 (r := 2) (x := 180) rfl) (dq_lk dJ5_append_3fe6f_v0 (r := 3) (x := 0) rfl) (dq_lk dJ5_append_3fe6f_v0 (r := 4) (x := 79) rfl)
theorem dJ5_append_3fe6f_5 : decode cJ5_append_3fe6f 5 = .ok (.iconst 1, 1) := dk_4 (dq_lk dJ5_append_3fe6f_v0 (r := 5) (x := 4) rfl)
theorem dJ5_append_3fe6f_6 : decode cJ5_append_3fe6f 6 = .ok (.iadd, 1) := dk_96 (dq_lk dJ5_append_3fe6f_v0 (r := 6) (x := 96) rfl)
theorem dJ5_append_3fe6f_7 : decode cJ5_append_3fe6f 7 = .ok (.invokevirtual 100, 3) := dk_182 (dq_lk dJ5_append_3fe6f_v0 (r := 7) (x := 182) rfl) (dq_lk dJ5_append_3fe6f_v0 (r := 8) (x := 0) rfl) (dq_lk dJ5_append_3fe6f_v0 (r := 9) (x := 100) rfl)
theorem dJ5_append_3fe6f_10 : decode cJ5_append_3fe6f 10 = .ok (.aload_n 0, 1) := dk_42 (dq_lk dJ5_append_3fe6f_v0 (r := 10) (x := 42) rfl)
theorem dJ5_append_3fe6f_11 : decode cJ5_append_3fe6f 11 = .ok (.invokevirtual 83, 3) := dk_182 (dq_lk dJ5_append_3fe6f_v0 (r := 11) (x := 182) rfl) (dq_lk dJ5_append_3fe6f_v0 (r := 12) (x := 0) rfl) (dq_lk dJ5_append_3fe6f_v0 (r := 13) (x := 83) rfl)
theorem dJ5_append_3fe6f_14 : decode cJ5_append_3fe6f 14 = .ok (.ifCond .eq 31, 3) := dk_153 (dq_lk dJ5_append_3fe6f_v0 (r := 14) (x := 153) rfl) (dq_lk dJ5_append_3fe6f_v0 (r := 15) (x := 0) rfl) (dq_lk dJ5_append_3fe6f_v1 (r := 0) (x := 31) rfl) (by decide +kernel)
theorem dJ5_append_3fe6f_17 : decode cJ5_append_3fe6f 17 = .ok (.iload_n 1, 1) := dk_27 (dq_lk dJ5_append_3fe6f_v1 (r := 1) (x := 27) rfl)
theorem dJ5_append_3fe6f_18 : decode cJ5_append_3fe6f 18 = .ok (.invokestatic 191, 3) := dk_184 (dq_lk dJ5_append_3fe6f_v1 (r := 2) (x := 184) rfl) (dq_lk dJ5_append_3fe6f_v1 (r := 3) (x := 0) rfl) (dq_lk dJ5_append_3fe6f_v1 (r := 4) (x := 191) rfl)
theorem dJ5_append_3fe6f_21 : decode cJ5_append_3fe6f 21 = .ok (.ifCond .eq 24, 3) := dk_153 (dq_lk dJ5_append_3fe6f_v1 (r := 5) (x := 153) rfl) (dq_lk dJ5_append_3fe6f_v1 (r := 6) (x := 0) rfl) (dq_lk dJ5_append_3fe6f_v1 (r := 7) (x := 24) rfl) (by decide +kernel)
theorem dJ5_append_3fe6f_24 : decode cJ5_append_3fe6f 24 = .ok (.aload_n 0, 1) := dk_42 (dq_lk dJ5_append_3fe6f_v1 (r := 8) (x := 42) rfl)
theorem dJ5_append_3fe6f_25 : decode cJ5_append_3fe6f 25 = .ok (.getfield 15, 3) := dk_180 (dq_lk dJ5_append_3fe6f_v1 (r := 9) (x := 180) rfl) (dq_lk dJ5_append_3fe6f_v1 (r := 10) (x := 0) rfl) (dq_lk dJ5_append_3fe6f_v1 (r := 11) (x := 15) rfl)
theorem dJ5_append_3fe6f_28 : decode cJ5_append_3fe6f 28 = .ok (.aload_n 0, 1) := dk_42 (dq_lk dJ5_append_3fe6f_v1 (r := 12) (x := 42) rfl)
theorem dJ5_append_3fe6f_29 : decode cJ5_append_3fe6f 29 = .ok (.dup, 1) := dk_89 (dq_lk dJ5_append_3fe6f_v1 (r := 13) (x := 89) rfl)
theorem dJ5_append_3fe6f_30 : decode cJ5_append_3fe6f 30 = .ok (.getfield 79, 3) := dk_180 (dq_lk dJ5_append_3fe6f_v1 (r := 14) (x := 180) rfl) (dq_lk dJ5_append_3fe6f_v1 (r := 15) (x := 0) rfl) (dq_lk dJ5_append_3fe6f_v2 (r := 0) (x := 79) rfl)
theorem dJ5_append_3fe6f_33 : decode cJ5_append_3fe6f 33 = .ok (.dup_x1, 1) := dk_90 (dq_lk dJ5_append_3fe6f_v2 (r := 1) (x := 90) rfl)
theorem dJ5_append_3fe6f_34 : decode cJ5_append_3fe6f 34 = .ok (.iconst 1, 1) := dk_4 (dq_lk dJ5_append_3fe6f_v2 (r := 2) (x := 4) rfl)
theorem dJ5_append_3fe6f_35 : decode cJ5_append_3fe6f 35 = .ok (.iadd, 1) := dk_96 (dq_lk dJ5_append_3fe6f_v2 (r := 3) (x := 96) rfl)
theorem dJ5_append_3fe6f_36 : decode cJ5_append_3fe6f 36 = .ok (.putfield 79, 3) := dk_181 (dq_lk dJ5_append_3fe6f_v2 (r := 4) (x := 181) rfl) (dq_lk dJ5_append_3fe6f_v2 (r := 5) (x := 0) rfl) (dq_lk dJ5_append_3fe6f_v2 (r := 6) (x := 79) rfl)
theorem dJ5_append_3fe6f_39 : decode cJ5_append_3fe6f 39 = .ok (.iload_n 1, 1) := dk_27 (dq_lk dJ5_append_3fe6f_v2 (r := 7) (x := 27) rfl)
theorem dJ5_append_3fe6f_40 : decode cJ5_append_3fe6f 40 = .ok (.i2b, 1) := dk_145 (dq_lk dJ5_append_3fe6f_v2 (r := 8) (x := 145) rfl)
theorem dJ5_append_3fe6f_41 : decode cJ5_append_3fe6f 41 = .ok (.bastore, 1) := dk_84 (dq_lk dJ5_append_3fe6f_v2 (r := 9) (x := 84) rfl)
theorem dJ5_append_3fe6f_42 : decode cJ5_append_3fe6f 42 = .ok (.goto 33, 3) := dk_167 (dq_lk dJ5_append_3fe6f_v2 (r := 10) (x := 167) rfl) (dq_lk dJ5_append_3fe6f_v2 (r := 11) (x := 0) rfl) (dq_lk dJ5_append_3fe6f_v2 (r := 12) (x := 33) rfl) (by decide +kernel)
theorem dJ5_append_3fe6f_75 : decode cJ5_append_3fe6f 75 = .ok (.aload_n 0, 1) := dk_42 (dq_lk dJ5_append_3fe6f_v4 (r := 11) (x := 42) rfl)
theorem dJ5_append_3fe6f_76 : decode cJ5_append_3fe6f 76 = .ok (.areturn, 1) := dk_176 (dq_lk dJ5_append_3fe6f_v4 (r := 12) (x := 176) rfl)
theorem dJ5_ensureCapacityInternal_d00df_v0 : (cJ5_ensureCapacityInternal_d00df.data.toList.drop 0).take 16 = [42, 180, 0, 15, 190, 42, 180, 0, 22, 122, 61, 27, 28, 100, 158, 0] := by decide +kernel
theorem dJ5_ensureCapacityInternal_d00df_v1 : (cJ5_ensureCapacityInternal_d00df.data.toList.drop 16).take 16 = [24, 42, 42, 180, 0, 15, 42, 27, 182, 0, 104, 42, 180, 0, 22, 120] := by decide +kernel
theorem dJ5_ensureCapacityInternal_d00df_v2 : (cJ5_ensureCapacityInternal_d00df.data.toList.drop 32).take 16 = [184, 0, 108, 181, 0, 15, 177] := by decide +kernel
theorem dJ5_ensureCapacityInternal_d00df_0 : decode cJ5_ensureCapacityInternal_d00df 0 = .ok (.aload_n 0, 1) := dk_42 (dq_lk dJ5_ensureCapacityInternal_d00df_v0 (r := 0) (x := 42) rfl)
theorem dJ5_ensureCapacityInternal_d00df_1 : decode cJ5_ensureCapacityInternal_d00df 1 = .ok (.getfield 15, 3) := dk_180 (dq_lk dJ5_ensureCapacityInternal_d00df_v0 (r := 1) (x := 180) rfl) (dq_lk dJ5_ensureCapacityInternal_d00df_v0 (r := 2) (x := 0) rfl) (dq_lk dJ5_ensureCapacityInternal_d00df_v0 (r := 3) (x := 15) rfl)
theorem dJ5_ensureCapacityInternal_d00df_4 : decode cJ5_ensureCapacityInternal_d00df 4 = .ok (.arraylength, 1) := dk_190 (dq_lk dJ5_ensureCapacityInternal_d00df_v0 (r := 4) (x := 190) rfl)
theorem dJ5_ensureCapacityInternal_d00df_5 : decode cJ5_ensureCapacityInternal_d00df 5 = .ok (.aload_n 0, 1) := dk_42 (dq_lk dJ5_ensureCapacityInternal_d00df_v0 (r := 5) (x := 42) rfl)
theorem dJ5_ensureCapacityInternal_d00df_6 : decode cJ5_ensureCapacityInternal_d00df 6 = .ok (.getfield 22, 3) := dk_180 (dq_lk dJ5_ensureCapacityInternal_d00df_v0 (r := 6) (x := 180) rfl) (dq_lk dJ5_ensureCapacityInternal_d00df_v0 (r := 7) (x := 0) rfl) (dq_lk dJ5_ensureCapacityInternal_d00df_v0 (r := 8) (x := 22) rfl)
theorem dJ5_ensureCapacityInternal_d00df_9 : decode cJ5_ensureCapacityInternal_d00df 9 = .ok (.ishr, 1) := dk_122 (dq_lk dJ5_ensureCapacityInternal_d00df_v0 (r := 9) (x := 122) rfl)
theorem dJ5_ensureCapacityInternal_d00df_10 : decode cJ5_ensureCapacityInternal_d00df 10 = .ok (.istore_n 2, 1) := dk_61 (dq_lk dJ5_ensureCapacityInternal_d00df_v0 (r := 10) (x := 61) rfl)
theorem dJ5_ensureCapacityInternal_d00df_11 : decode cJ5_ensureCapacityInternal_d00df 11 = .ok (.iload_n 1, 1) := dk_27 (dq_lk dJ5_ensureCapacityInternal_d00df_v0 (r := 11) (x := 27) rfl)
theorem dJ5_ensureCapacityInternal_d00df_12 : decode cJ5_ensureCapacityInternal_d00df 12 = .ok (.iload_n 2, 1) := dk_28 (dq_lk dJ5_ensureCapacityInternal_d00df_v0 (r := 12) (x := 28) rfl)
theorem dJ5_ensureCapacityInternal_d00df_13 : decode cJ5_ensureCapacityInternal_d00df 13 = .ok (.isub, 1) := dk_100 (dq_lk dJ5_ensureCapacityInternal_d00df_v0 (r := 13) (x := 100) rfl)
theorem dJ5_ensureCapacityInternal_d00df_14 : decode cJ5_ensureCapacityInternal_d00df 14 = .ok (.ifCond .le 24, 3) := dk_158 (dq_lk dJ5_ensureCapacityInternal_d00df_v0 (r := 14) (x := 158) rfl) (dq_lk dJ5_ensureCapacityInternal_d00df_v0 (r := 15) (x := 0) rfl) (dq_lk dJ5_ensureCapacityInternal_d00df_v1 (r := 0) (x := 24) rfl) (by decide +kernel)
theorem dJ5_ensureCapacityInternal_d00df_17 : decode cJ5_ensureCapacityInternal_d00df 17 = .ok (.aload_n 0, 1) := dk_42 (dq_lk dJ5_ensureCapacityInternal_d00df_v1 (r := 1) (x := 42) rfl)
theorem dJ5_ensureCapacityInternal_d00df_18 : decode cJ5_ensureCapacityInternal_d00df 18 = .ok (.aload_n 0, 1) := dk_42 (dq_lk dJ5_ensureCapacityInternal_d00df_v1 (r := 2) (x := 42) rfl)
theorem dJ5_ensureCapacityInternal_d00df_19 : decode cJ5_ensureCapacityInternal_d00df 19 = .ok (.getfield 15, 3) := dk_180 (dq_lk dJ5_ensureCapacityInternal_d00df_v1 (r := 3) (x := 180) rfl) (dq_lk dJ5_ensureCapacityInternal_d00df_v1 (r := 4) (x := 0) rfl) (dq_lk dJ5_ensureCapacityInternal_d00df_v1 (r := 5) (x := 15) rfl)
theorem dJ5_ensureCapacityInternal_d00df_22 : decode cJ5_ensureCapacityInternal_d00df 22 = .ok (.aload_n 0, 1) := dk_42 (dq_lk dJ5_ensureCapacityInternal_d00df_v1 (r := 6) (x := 42) rfl)
theorem dJ5_ensureCapacityInternal_d00df_23 : decode cJ5_ensureCapacityInternal_d00df 23 = .ok (.iload_n 1, 1) := dk_27 (dq_lk dJ5_ensureCapacityInternal_d00df_v1 (r := 7) (x := 27) rfl)
theorem dJ5_ensureCapacityInternal_d00df_24 : decode cJ5_ensureCapacityInternal_d00df 24 = .ok (.invokevirtual 104, 3) := dk_182 (dq_lk dJ5_ensureCapacityInternal_d00df_v1 (r := 8) (x := 182) rfl) (dq_lk dJ5_ensureCapacityInternal_d00df_v1 (r := 9) (x := 0) rfl) (dq_lk dJ5_ensureCapacityInternal_d00df_v1 (r := 10) (x := 104) rfl)
theorem dJ5_ensureCapacityInternal_d00df_27 : decode cJ5_ensureCapacityInternal_d00df 27 = .ok (.aload_n 0, 1) := dk_42 (dq_lk dJ5_ensureCapacityInternal_d00df_v1 (r := 11) (x := 42) rfl)
theorem dJ5_ensureCapacityInternal_d00df_28 : decode cJ5_ensureCapacityInternal_d00df 28 = .ok (.getfield 22, 3) := dk_180 (dq_lk dJ5_ensureCapacityInternal_d00df_v1 (r := 12) (x := 180) rfl) (dq_lk dJ5_ensureCapacityInternal_d00df_v1 (r := 13) (x := 0) rfl) (dq_lk dJ5_ensureCapacityInternal_d00df_v1 (r := 14) (x := 22) rfl)
theorem dJ5_ensureCapacityInternal_d00df_31 : decode cJ5_ensureCapacityInternal_d00df 31 = .ok (.ishl, 1) := dk_120 (dq_lk dJ5_ensureCapacityInternal_d00df_v1 (r := 15) (x := 120) rfl)
theorem dJ5_ensureCapacityInternal_d00df_32 : decode cJ5_ensureCapacityInternal_d00df 32 = .ok (.invokestatic 108, 3) := dk_184 (dq_lk dJ5_ensureCapacityInternal_d00df_v2 (r := 0) (x := 184) rfl) (dq_lk dJ5_ensureCapacityInternal_d00df_v2 (r := 1) (x := 0) rfl) (dq_lk dJ5_ensureCapacityInternal_d00df_v2 (r := 2) (x := 108) rfl)
theorem dJ5_ensureCapacityInternal_d00df_35 : decode cJ5_ensureCapacityInternal_d00df 35 = .ok (.putfield 15, 3) := dk_181 (dq_lk dJ5_ensureCapacityInternal_d00df_v2 (r := 3) (x := 181) rfl) (dq_lk dJ5_ensureCapacityInternal_d00df_v2 (r := 4) (x := 0) rfl) (dq_lk dJ5_ensureCapacityInternal_d00df_v2 (r := 5) (x := 15) rfl)
theorem dJ5_ensureCapacityInternal_d00df_38 : decode cJ5_ensureCapacityInternal_d00df 38 = .ok (.return_, 1) := dk_177 (dq_lk dJ5_ensureCapacityInternal_d00df_v2 (r := 6) (x := 177) rfl)
theorem dJ5_newCapacity_0f7a4_v0 : (cJ5_newCapacity_0f7a4.data.toList.drop 0).take 16 = [42, 180, 0, 15, 190, 61, 27, 42, 180, 0, 22, 120, 62, 29, 28, 100] := by decide +kernel
theorem dJ5_newCapacity_0f7a4_v1 : (cJ5_newCapacity_0f7a4.data.toList.drop 16).take 16 = [54, 4, 28, 21, 4, 28, 5, 42, 180, 0, 22, 120, 96, 184, 0, 114] := by decide +kernel
theorem dJ5_newCapacity_0f7a4_v2 : (cJ5_newCapacity_0f7a4.data.toList.drop 32).take 16 = [54, 5, 21, 5, 18, 39, 160, 0, 13, 187, 0, 120, 89, 18, 122, 183] := by decide +kernel
theorem dJ5_newCapacity_0f7a4_v3 : (cJ5_newCapacity_0f7a4.data.toList.drop 48).take 16 = [0, 124, 191, 21, 5, 42, 180, 0, 22, 122, 172] := by decide +kernel
theorem dJ5_newCapacity_0f7a4_0 : decode cJ5_newCapacity_0f7a4 0 = .ok (.aload_n 0, 1) := dk_42 (dq_lk dJ5_newCapacity_0f7a4_v0 (r := 0) (x := 42) rfl)
theorem dJ5_newCapacity_0f7a4_1 : decode cJ5_newCapacity_0f7a4 1 = .ok (.getfield 15, 3) := dk_180 (dq_lk dJ5_newCapacity_0f7a4_v0 (r := 1) (x := 180) rfl) (dq_lk dJ5_newCapacity_0f7a4_v0 (r := 2) (x := 0) rfl) (dq_lk dJ5_newCapacity_0f7a4_v0 (r := 3) (x := 15) rfl)
theorem dJ5_newCapacity_0f7a4_4 : decode cJ5_newCapacity_0f7a4 4 = .ok (.arraylength, 1) := dk_190 (dq_lk dJ5_newCapacity_0f7a4_v0 (r := 4) (x := 190) rfl)
theorem dJ5_newCapacity_0f7a4_5 : decode cJ5_newCapacity_0f7a4 5 = .ok (.istore_n 2, 1) := dk_61 (dq_lk dJ5_newCapacity_0f7a4_v0 (r := 5) (x := 61) rfl)
theorem dJ5_newCapacity_0f7a4_6 : decode cJ5_newCapacity_0f7a4 6 = .ok (.iload_n 1, 1) := dk_27 (dq_lk dJ5_newCapacity_0f7a4_v0 (r := 6) (x := 27) rfl)
theorem dJ5_newCapacity_0f7a4_7 : decode cJ5_newCapacity_0f7a4 7 = .ok (.aload_n 0, 1) := dk_42 (dq_lk dJ5_newCapacity_0f7a4_v0 (r := 7) (x := 42) rfl)
theorem dJ5_newCapacity_0f7a4_8 : decode cJ5_newCapacity_0f7a4 8 = .ok (.getfield 22, 3) := dk_180 (dq_lk dJ5_newCapacity_0f7a4_v0 (r := 8) (x := 180) rfl) (dq_lk dJ5_newCapacity_0f7a4_v0 (r := 9) (x := 0) rfl) (dq_lk dJ5_newCapacity_0f7a4_v0 (r := 10) (x := 22) rfl)
theorem dJ5_newCapacity_0f7a4_11 : decode cJ5_newCapacity_0f7a4 11 = .ok (.ishl, 1) := dk_120 (dq_lk dJ5_newCapacity_0f7a4_v0 (r := 11) (x := 120) rfl)
theorem dJ5_newCapacity_0f7a4_12 : decode cJ5_newCapacity_0f7a4 12 = .ok (.istore_n 3, 1) := dk_62 (dq_lk dJ5_newCapacity_0f7a4_v0 (r := 12) (x := 62) rfl)
theorem dJ5_newCapacity_0f7a4_13 : decode cJ5_newCapacity_0f7a4 13 = .ok (.iload_n 3, 1) := dk_29 (dq_lk dJ5_newCapacity_0f7a4_v0 (r := 13) (x := 29) rfl)
theorem dJ5_newCapacity_0f7a4_14 : decode cJ5_newCapacity_0f7a4 14 = .ok (.iload_n 2, 1) := dk_28 (dq_lk dJ5_newCapacity_0f7a4_v0 (r := 14) (x := 28) rfl)
theorem dJ5_newCapacity_0f7a4_15 : decode cJ5_newCapacity_0f7a4 15 = .ok (.isub, 1) := dk_100 (dq_lk dJ5_newCapacity_0f7a4_v0 (r := 15) (x := 100) rfl)
theorem dJ5_newCapacity_0f7a4_16 : decode cJ5_newCapacity_0f7a4 16 = .ok (.istore 4, 2) := dk_54 (dq_lk dJ5_newCapacity_0f7a4_v1 (r := 0) (x := 54) rfl) (dq_lk dJ5_newCapacity_0f7a4_v1 (r := 1) (x := 4) rfl)
theorem dJ5_newCapacity_0f7a4_18 : decode cJ5_newCapacity_0f7a4 18 = .ok (.iload_n 2, 1) := dk_28 (dq_lk dJ5_newCapacity_0f7a4_v1 (r := 2) (x := 28) rfl)
theorem dJ5_newCapacity_0f7a4_19 : decode cJ5_newCapacity_0f7a4 19 = .ok (.iload 4, 2) := dk_21 (dq_lk dJ5_newCapacity_0f7a4_v1 (r := 3) (x := 21) rfl) (dq_lk dJ5_newCapacity_0f7a4_v1 (r := 4) (x := 4) rfl)
theorem dJ5_newCapacity_0f7a4_21 : decode cJ5_newCapacity_0f7a4 21 = .ok (.iload_n 2, 1) := dk_28 (dq_lk dJ5_newCapacity_0f7a4_v1 (r := 5) (x := 28) rfl)
theorem dJ5_newCapacity_0f7a4_22 : decode cJ5_newCapacity_0f7a4 22 = .ok (.iconst 2, 1) := dk_5 (dq_lk dJ5_newCapacity_0f7a4_v1 (r := 6) (x := 5) rfl)
theorem dJ5_newCapacity_0f7a4_23 : decode cJ5_newCapacity_0f7a4 23 = .ok (.aload_n 0, 1) := dk_42 (dq_lk dJ5_newCapacity_0f7a4_v1 (r := 7) (x := 42) rfl)
theorem dJ5_newCapacity_0f7a4_24 : decode cJ5_newCapacity_0f7a4 24 = .ok (.getfield 22, 3) := dk_180 (dq_lk dJ5_newCapacity_0f7a4_v1 (r := 8) (x := 180) rfl) (dq_lk dJ5_newCapacity_0f7a4_v1 (r := 9) (x := 0) rfl) (dq_lk dJ5_newCapacity_0f7a4_v1 (r := 10) (x := 22) rfl)
theorem dJ5_newCapacity_0f7a4_27 : decode cJ5_newCapacity_0f7a4 27 = .ok (.ishl, 1) := dk_120 (dq_lk dJ5_newCapacity_0f7a4_v1 (r := 11) (x := 120) rfl)
theorem dJ5_newCapacity_0f7a4_28 : decode cJ5_newCapacity_0f7a4 28 = .ok (.iadd, 1) := dk_96 (dq_lk dJ5_newCapacity_0f7a4_v1 (r := 12) (x := 96) rfl)
theorem dJ5_newCapacity_0f7a4_29 : decode cJ5_newCapacity_0f7a4 29 = .ok (.invokestatic 114, 3) := dk_184 (dq_lk dJ5_newCapacity_0f7a4_v1 (r := 13) (x := 184) rfl) (dq_lk dJ5_newCapacity_0f7a4_v1 (r := 14) (x := 0) rfl) (dq_lk dJ5_newCapacity_0f7a4_v1 (r := 15) (x := 114) rfl)
theorem dJ5_newCapacity_0f7a4_32 : decode cJ5_newCapacity_0f7a4 32 = .ok (.istore 5, 2) := dk_54 (dq_lk dJ5_newCapacity_0f7a4_v2 (r := 0) (x := 54) rfl) (dq_lk dJ5_newCapacity_0f7a4_v2 (r := 1) (x := 5) rfl)
theorem dJ5_newCapacity_0f7a4_34 : decode cJ5_newCapacity_0f7a4 34 = .ok (.iload 5, 2) := dk_21 (dq_lk dJ5_newCapacity_0f7a4_v2 (r := 2) (x := 21) rfl) (dq_lk dJ5_newCapacity_0f7a4_v2 (r := 3) (x := 5) rfl)
theorem dJ5_newCapacity_0f7a4_36 : decode cJ5_newCapacity_0f7a4 36 = .ok (.ldc 39, 2) := dk_18 (dq_lk dJ5_newCapacity_0f7a4_v2 (r := 4) (x := 18) rfl) (dq_lk dJ5_newCapacity_0f7a4_v2 (r := 5) (x := 39) rfl)
theorem dJ5_newCapacity_0f7a4_38 : decode cJ5_newCapacity_0f7a4 38 = .ok (.if_icmp .ne 13, 3) := dk_160 (dq_lk dJ5_newCapacity_0f7a4_v2 (r := 6) (x := 160) rfl) (dq_lk dJ5_newCapacity_0f7a4_v2 (r := 7) (x := 0) rfl) (dq_lk dJ5_newCapacity_0f7a4_v2 (r := 8) (x := 13) rfl) (by decide +kernel)
theorem dJ5_newCapacity_0f7a4_51 : decode cJ5_newCapacity_0f7a4 51 = .ok (.iload 5, 2) := dk_21 (dq_lk dJ5_newCapacity_0f7a4_v3 (r := 3) (x := 21) rfl) (dq_lk dJ5_newCapacity_0f7a4_v3 (r := 4) (x := 5) rfl)
theorem dJ5_newCapacity_0f7a4_53 : decode cJ5_newCapacity_0f7a4 53 = .ok (.aload_n 0, 1) := dk_42 (dq_lk dJ5_newCapacity_0f7a4_v3 (r := 5) (x := 42) rfl)
theorem dJ5_newCapacity_0f7a4_54 : decode cJ5_newCapacity_0f7a4 54 = .ok (.getfield 22, 3) := dk_180 (dq_lk dJ5_newCapacity_0f7a4_v3 (r := 6) (x := 180) rfl) (dq_lk dJ5_newCapacity_0f7a4_v3 (r := 7) (x := 0) rfl) (dq_lk dJ5_newCapacity_0f7a4_v3 (r := 8) (x := 22) rfl)
theorem dJ5_newCapacity_0f7a4_57 : decode cJ5_newCapacity_0f7a4 57 = .ok (.ishr, 1) := dk_122 (dq_lk dJ5_newCapacity_0f7a4_v3 (r := 9) (x := 122) rfl)
theorem dJ5_newCapacity_0f7a4_58 : decode cJ5_newCapacity_0f7a4 58 = .ok (.ireturn, 1) := dk_172 (dq_lk dJ5_newCapacity_0f7a4_v3 (r := 10) (x := 172) rfl)
theorem dJ8_newLength_cabcc_v0 : (cJ8_newLength_cabcc.data.toList.drop 0).take 16 = [26, 27, 28, 184, 0, 194, 96, 62, 3, 29, 162, 0, 11, 29, 18, 200] := by decide +kernel
theorem dJ8_newLength_cabcc_v1 : (cJ8_newLength_cabcc.data.toList.drop 16).take 16 = [163, 0, 5, 29, 172, 26, 27, 184, 0, 201, 172] := by decide +kernel
theorem dJ8_newLength_cabcc_0 : decode cJ8_newLength_cabcc 0 = .ok (.iload_n 0, 1) := dk_26 (dq_lk dJ8_newLength_cabcc_v0 (r := 0) (x := 26) rfl)
theorem dJ8_newLength_cabcc_1 : decode cJ8_newLength_cabcc 1 = .ok (.iload_n 1, 1) := dk_27 (dq_lk dJ8_newLength_cabcc_v0 (r := 1) (x := 27) rfl)
theorem dJ8_newLength_cabcc_2 : decode cJ8_newLength_cabcc 2 = .ok (.iload_n 2, 1) := dk_28 (dq_lk dJ8_newLength_cabcc_v0 (r := 2) (x := 28) rfl)
theorem dJ8_newLength_cabcc_3 : decode cJ8_newLength_cabcc 3 = .ok (.invokestatic 194, 3) := dk_184 (dq_lk dJ8_newLength_cabcc_v0 (r := 3) (x := 184) rfl) (dq_lk dJ8_newLength_cabcc_v0 (r := 4) (x := 0) rfl) (dq_lk dJ8_newLength_cabcc_v0 (r := 5) (x := 194) rfl)
theorem dJ8_newLength_cabcc_6 : decode cJ8_newLength_cabcc 6 = .ok (.iadd, 1) := dk_96 (dq_lk dJ8_newLength_cabcc_v0 (r := 6) (x := 96) rfl)
theorem dJ8_newLength_cabcc_7 : decode cJ8_newLength_cabcc 7 = .ok (.istore_n 3, 1) := dk_62 (dq_lk dJ8_newLength_cabcc_v0 (r := 7) (x := 62) rfl)
theorem dJ8_newLength_cabcc_8 : decode cJ8_newLength_cabcc 8 = .ok (.iconst 0, 1) := dk_3 (dq_lk dJ8_newLength_cabcc_v0 (r := 8) (x := 3) rfl)
theorem dJ8_newLength_cabcc_9 : decode cJ8_newLength_cabcc 9 = .ok (.iload_n 3, 1) := dk_29 (dq_lk dJ8_newLength_cabcc_v0 (r := 9) (x := 29) rfl)
theorem dJ8_newLength_cabcc_10 : decode cJ8_newLength_cabcc 10 = .ok (.if_icmp .ge 11, 3) := dk_162 (dq_lk dJ8_newLength_cabcc_v0 (r := 10) (x := 162) rfl) (dq_lk dJ8_newLength_cabcc_v0 (r := 11) (x := 0) rfl) (dq_lk dJ8_newLength_cabcc_v0 (r := 12) (x := 11) rfl) (by decide +kernel)
theorem dJ8_newLength_cabcc_13 : decode cJ8_newLength_cabcc 13 = .ok (.iload_n 3, 1) := dk_29 (dq_lk dJ8_newLength_cabcc_v0 (r := 13) (x := 29) rfl)
theorem dJ8_newLength_cabcc_14 : decode cJ8_newLength_cabcc 14 = .ok (.ldc 200, 2) := dk_18 (dq_lk dJ8_newLength_cabcc_v0 (r := 14) (x := 18) rfl) (dq_lk dJ8_newLength_cabcc_v0 (r := 15) (x := 200) rfl)
theorem dJ8_newLength_cabcc_16 : decode cJ8_newLength_cabcc 16 = .ok (.if_icmp .gt 5, 3) := dk_163 (dq_lk dJ8_newLength_cabcc_v1 (r := 0) (x := 163) rfl) (dq_lk dJ8_newLength_cabcc_v1 (r := 1) (x := 0) rfl) (dq_lk dJ8_newLength_cabcc_v1 (r := 2) (x := 5) rfl) (by decide +kernel)
theorem dJ8_newLength_cabcc_19 : decode cJ8_newLength_cabcc 19 = .ok (.iload_n 3, 1) := dk_29 (dq_lk dJ8_newLength_cabcc_v1 (r := 3) (x := 29) rfl)
theorem dJ8_newLength_cabcc_20 : decode cJ8_newLength_cabcc 20 = .ok (.ireturn, 1) := dk_172 (dq_lk dJ8_newLength_cabcc_v1 (r := 4) (x := 172) rfl)
theorem dJ7_copyOf_9075b_v0 : (cJ7_copyOf_9075b.data.toList.drop 0).take 16 = [27, 42, 190, 160, 0, 11, 42, 182, 1, 54, 192, 1, 55, 176, 27, 188] := by decide +kernel
theorem dJ7_copyOf_9075b_v1 : (cJ7_copyOf_9075b.data.toList.drop 16).take 16 = [8, 77, 42, 3, 44, 3, 42, 190, 27, 184, 1, 48, 184, 0, 150, 44] := by decide +kernel
theorem dJ7_copyOf_9075b_v2 : (cJ7_copyOf_9075b.data.toList.drop 32).take 16 = [176] := by decide +kernel
theorem dJ7_copyOf_9075b_0 : decode cJ7_copyOf_9075b 0 = .ok (.iload_n 1, 1) := dk_27 (dq_lk dJ7_copyOf_9075b_v0 (r := 0) (x := 27) rfl)
theorem dJ7_copyOf_9075b_1 : decode cJ7_copyOf_9075b 1 = .ok (.aload_n 0, 1) := dk_42 (dq_lk dJ7_copyOf_9075b_v0 (r := 1) (x := 42) rfl)
theorem dJ7_copyOf_9075b_2 : decode cJ7_copyOf_9075b 2 = .ok (.arraylength, 1) := dk_190 (dq_lk dJ7_copyOf_9075b_v0 (r := 2) (x := 190) rfl)
theorem dJ7_copyOf_9075b_3 : decode cJ7_copyOf_9075b 3 = .ok (.if_icmp .ne 11, 3) := dk_160 (dq_lk dJ7_copyOf_9075b_v0 (r := 3) (x := 160) rfl) (dq_lk dJ7_copyOf_9075b_v0 (r := 4) (x := 0) rfl) (dq_lk dJ7_copyOf_9075b_v0 (r := 5) (x := 11) rfl) (by decide +kernel)
theorem dJ7_copyOf_9075b_14 : decode cJ7_copyOf_9075b 14 = .ok (.iload_n 1, 1) := dk_27 (dq_lk dJ7_copyOf_9075b_v0 (r := 14) (x := 27) rfl)
theorem dJ7_copyOf_9075b_15 : decode cJ7_copyOf_9075b 15 = .ok (.newarray .byte, 2) := by decide +kernel
theorem dJ7_copyOf_9075b_17 : decode cJ7_copyOf_9075b 17 = .ok (.astore_n 2, 1) := dk_77 (dq_lk dJ7_copyOf_9075b_v1 (r := 1) (x := 77) rfl)
theorem dJ7_copyOf_9075b_18 : decode cJ7_copyOf_9075b 18 = .ok (.aload_n 0, 1) := dk_42 (dq_lk dJ7_copyOf_9075b_v1 (r := 2) (x := 42) rfl)
theorem dJ7_copyOf_9075b_19 : decode cJ7_copyOf_9075b 19 = .ok (.iconst 0, 1) := dk_3 (dq_lk dJ7_copyOf_9075b_v1 (r := 3) (x := 3) rfl)
theorem dJ7_copyOf_9075b_20 : decode cJ7_copyOf_9075b 20 = .ok (.aload_n 2, 1) := dk_44 (dq_lk dJ7_copyOf_9075b_v1 (r := 4) (x := 44) rfl)
theorem dJ7_copyOf_9075b_21 : decode cJ7_copyOf_9075b 21 = .ok (.iconst 0, 1) := dk_3 (dq_lk dJ7_copyOf_9075b_v1 (r := 5) (x := 3) rfl)
theorem dJ7_copyOf_9075b_22 : decode cJ7_copyOf_9075b 22 = .ok (.aload_n 0, 1) := dk_42 (dq_lk dJ7_copyOf_9075b_v1 (r := 6) (x := 42) rfl)
theorem dJ7_copyOf_9075b_23 : decode cJ7_copyOf_9075b 23 = .ok (.arraylength, 1) := dk_190 (dq_lk dJ7_copyOf_9075b_v1 (r := 7) (x := 190) rfl)
theorem dJ7_copyOf_9075b_24 : decode cJ7_copyOf_9075b 24 = .ok (.iload_n 1, 1) := dk_27 (dq_lk dJ7_copyOf_9075b_v1 (r := 8) (x := 27) rfl)
theorem dJ7_copyOf_9075b_25 : decode cJ7_copyOf_9075b 25 = .ok (.invokestatic 304, 3) := dk_184 (dq_lk dJ7_copyOf_9075b_v1 (r := 9) (x := 184) rfl) (dq_lk dJ7_copyOf_9075b_v1 (r := 10) (x := 1) rfl) (dq_lk dJ7_copyOf_9075b_v1 (r := 11) (x := 48) rfl)
theorem dJ7_copyOf_9075b_28 : decode cJ7_copyOf_9075b 28 = .ok (.invokestatic 150, 3) := dk_184 (dq_lk dJ7_copyOf_9075b_v1 (r := 12) (x := 184) rfl) (dq_lk dJ7_copyOf_9075b_v1 (r := 13) (x := 0) rfl) (dq_lk dJ7_copyOf_9075b_v1 (r := 14) (x := 150) rfl)
theorem dJ7_copyOf_9075b_31 : decode cJ7_copyOf_9075b 31 = .ok (.aload_n 2, 1) := dk_44 (dq_lk dJ7_copyOf_9075b_v1 (r := 15) (x := 44) rfl)
theorem dJ7_copyOf_9075b_32 : decode cJ7_copyOf_9075b 32 = .ok (.areturn, 1) := dk_176 (dq_lk dJ7_copyOf_9075b_v2 (r := 0) (x := 176) rfl)
theorem dJ5_isLatin1_aae02_v0 : (cJ5_isLatin1_aae02.data.toList.drop 0).take 16 = [178, 0, 18, 153, 0, 14, 42, 180, 0, 22, 154, 0, 7, 4, 167, 0] := by decide +kernel
theorem dJ5_isLatin1_aae02_v1 : (cJ5_isLatin1_aae02.data.toList.drop 16).take 16 = [4, 3, 172] := by decide +kernel
theorem dJ5_isLatin1_aae02_0 : decode cJ5_isLatin1_aae02 0 = .ok (.getstatic 18, 3) := dk_178 (dq_lk dJ5_isLatin1_aae02_v0 (r := 0) (x := 178) rfl) (dq_lk dJ5_isLatin1_aae02_v0 (r := 1) (x := 0) rfl) (dq_lk dJ5_isLatin1_aae02_v0 (r := 2) (x := 18) rfl)
theorem dJ5_isLatin1_aae02_3 : decode cJ5_isLatin1_aae02 3 = .ok (.ifCond .eq 14, 3) := dk_153 (dq_lk dJ5_isLatin1_aae02_v0 (r := 3) (x := 153) rfl) (dq_lk dJ5_isLatin1_aae02_v0 (r := 4) (x := 0) rfl) (dq_lk dJ5_isLatin1_aae02_v0 (r := 5) (x := 14) rfl) (by decide +kernel)
theorem dJ5_isLatin1_aae02_6 : decode cJ5_isLatin1_aae02 6 = .ok (.aload_n 0, 1) := dk_42 (dq_lk dJ5_isLatin1_aae02_v0 (r := 6) (x := 42) rfl)
theorem dJ5_isLatin1_aae02_7 : decode cJ5_isLatin1_aae02 7 = .ok (.getfield 22, 3) := dk_180 (dq_lk dJ5_isLatin1_aae02_v0 (r := 7) (x := 180) rfl) (dq_lk dJ5_isLatin1_aae02_v0 (r := 8) (x := 0) rfl) (dq_lk dJ5_isLatin1_aae02_v0 (r := 9) (x := 22) rfl)
theorem dJ5_isLatin1_aae02_10 : decode cJ5_isLatin1_aae02 10 = .ok (.ifCond .ne 7, 3) := dk_154 (dq_lk dJ5_isLatin1_aae02_v0 (r := 10) (x := 154) rfl) (dq_lk dJ5_isLatin1_aae02_v0 (r := 11) (x := 0) rfl) (dq_lk dJ5_isLatin1_aae02_v0 (r := 12) (x := 7) rfl) (by decide +kernel)
theorem dJ5_isLatin1_aae02_13 : decode cJ5_isLatin1_aae02 13 = .ok (.iconst 1, 1) := dk_4 (dq_lk dJ5_isLatin1_aae02_v0 (r := 13) (x := 4) rfl)
theorem dJ5_isLatin1_aae02_14 : decode cJ5_isLatin1_aae02 14 = .ok (.goto 4, 3) := dk_167 (dq_lk dJ5_isLatin1_aae02_v0 (r := 14) (x := 167) rfl) (dq_lk dJ5_isLatin1_aae02_v0 (r := 15) (x := 0) rfl) (dq_lk dJ5_isLatin1_aae02_v1 (r := 0) (x := 4) rfl) (by decide +kernel)
theorem dJ5_isLatin1_aae02_18 : decode cJ5_isLatin1_aae02 18 = .ok (.ireturn, 1) := dk_172 (dq_lk dJ5_isLatin1_aae02_v1 (r := 2) (x := 172) rfl)
theorem dJ1_canEncode_fc78d_v0 : (cJ1_canEncode_fc78d.data.toList.drop 0).take 16 = [26, 17, 0, 255, 163, 0, 7, 4, 167, 0, 4, 3, 172] := by decide +kernel
theorem dJ1_canEncode_fc78d_0 : decode cJ1_canEncode_fc78d 0 = .ok (.iload_n 0, 1) := dk_26 (dq_lk dJ1_canEncode_fc78d_v0 (r := 0) (x := 26) rfl)
theorem dJ1_canEncode_fc78d_1 : decode cJ1_canEncode_fc78d 1 = .ok (.sipush 255, 3) := dk_17 (dq_lk dJ1_canEncode_fc78d_v0 (r := 1) (x := 17) rfl) (dq_lk dJ1_canEncode_fc78d_v0 (r := 2) (x := 0) rfl) (dq_lk dJ1_canEncode_fc78d_v0 (r := 3) (x := 255) rfl) (by decide +kernel)
theorem dJ1_canEncode_fc78d_4 : decode cJ1_canEncode_fc78d 4 = .ok (.if_icmp .gt 7, 3) := dk_163 (dq_lk dJ1_canEncode_fc78d_v0 (r := 4) (x := 163) rfl) (dq_lk dJ1_canEncode_fc78d_v0 (r := 5) (x := 0) rfl) (dq_lk dJ1_canEncode_fc78d_v0 (r := 6) (x := 7) rfl) (by decide +kernel)
theorem dJ1_canEncode_fc78d_7 : decode cJ1_canEncode_fc78d 7 = .ok (.iconst 1, 1) := dk_4 (dq_lk dJ1_canEncode_fc78d_v0 (r := 7) (x := 4) rfl)
theorem dJ1_canEncode_fc78d_8 : decode cJ1_canEncode_fc78d 8 = .ok (.goto 4, 3) := dk_167 (dq_lk dJ1_canEncode_fc78d_v0 (r := 8) (x := 167) rfl) (dq_lk dJ1_canEncode_fc78d_v0 (r := 9) (x := 0) rfl) (dq_lk dJ1_canEncode_fc78d_v0 (r := 10) (x := 4) rfl) (by decide +kernel)
theorem dJ1_canEncode_fc78d_12 : decode cJ1_canEncode_fc78d 12 = .ok (.ireturn, 1) := dk_172 (dq_lk dJ1_canEncode_fc78d_v0 (r := 12) (x := 172) rfl)
theorem dJ4_reverse_43fcb_v0 : (cJ4_reverse_43fcb.data.toList.drop 0).take 16 = [42, 183, 0, 127, 87, 42, 176] := by decide +kernel
theorem dJ4_reverse_43fcb_0 : decode cJ4_reverse_43fcb 0 = .ok (.aload_n 0, 1) := dk_42 (dq_lk dJ4_reverse_43fcb_v0 (r := 0) (x := 42) rfl)
theorem dJ4_reverse_43fcb_1 : decode cJ4_reverse_43fcb 1 = .ok (.invokespecial 127, 3) := dk_183 (dq_lk dJ4_reverse_43fcb_v0 (r := 1) (x := 183) rfl) (dq_lk dJ4_reverse_43fcb_v0 (r := 2) (x := 0) rfl) (dq_lk dJ4_reverse_43fcb_v0 (r := 3) (x := 127) rfl)
theorem dJ4_reverse_43fcb_4 : decode cJ4_reverse_43fcb 4 = .ok (.pop, 1) := dk_87 (dq_lk dJ4_reverse_43fcb_v0 (r := 4) (x := 87) rfl)
theorem dJ4_reverse_43fcb_5 : decode cJ4_reverse_43fcb 5 = .ok (.aload_n 0, 1) := dk_42 (dq_lk dJ4_reverse_43fcb_v0 (r := 5) (x := 42) rfl)
theorem dJ4_reverse_43fcb_6 : decode cJ4_reverse_43fcb 6 = .ok (.areturn, 1) := dk_176 (dq_lk dJ4_reverse_43fcb_v0 (r := 6) (x := 176) rfl)
theorem dJ5_reverse_278bc_w0 : (cJ5_reverse_278bc.data.toList.drop 0).take 64 = [42, 180, 0, 15, 76, 42, 180, 0, 79, 61, 28, 4, 100, 62, 42, 182, 0, 83, 153, 0, 50, 29, 4, 100, 4, 122, 54, 4, 21, 4, 155, 0, 35, 29, 21, 4, 100, 54, 5, 43, 21, 4, 51, 54, 6, 43, 21, 4, 43, 21, 5, 51, 84, 43, 21, 5, 21, 6, 84, 132, 4, 255, 167, 255] := by decide +kernel
theorem dJ5_reverse_278bc_w1 : (cJ5_reverse_278bc.data.toList.drop 64).take 64 = [222, 167, 0, 8, 43, 28, 184, 1, 102, 42, 176] := by decide +kernel
theorem dJ5_reverse_278bc_v0 : (cJ5_reverse_278bc.data.toList.drop 0).take 16 = [42, 180, 0, 15, 76, 42, 180, 0, 79, 61, 28, 4, 100, 62, 42, 182] := dq_sub (n := 0) (j := 0) dJ5_reverse_278bc_w0 (by decide) rfl
theorem dJ5_reverse_278bc_v1 : (cJ5_reverse_278bc.data.toList.drop 16).take 16 = [0, 83, 153, 0, 50, 29, 4, 100, 4, 122, 54, 4, 21, 4, 155, 0] := dq_sub (n := 0) (j := 16) dJ5_reverse_278bc_w0 (by decide) rfl
theorem dJ5_reverse_278bc_v2 : (cJ5_reverse_278bc.data.toList.drop 32).take 16 = [35, 29, 21, 4, 100, 54, 5, 43, 21, 4, 51, 54, 6, 43, 21, 4] := dq_sub (n := 0) (j := 32) dJ5_reverse_278bc_w0 (by decide) rfl
theorem dJ5_reverse_278bc_v3 : (cJ5_reverse_278bc.data.toList.drop 48).take 16 = [43, 21, 5, 51, 84, 43, 21, 5, 21, 6, 84, 132, 4, 255, 167, 255] := dq_sub (n := 0) (j := 48) dJ5_reverse_278bc_w0 (by decide) rfl
theorem dJ5_reverse_278bc_v4 : (cJ5_reverse_278bc.data.toList.drop 64).take 16 = [222, 167, 0, 8, 43, 28, 184, 1, 102, 42, 176] := dq_sub (n := 64) (j := 0) dJ5_reverse_278bc_w1 (by decide) rfl
theorem dJ5_reverse_278bc_0 : decode cJ5_reverse_278bc 0 = .ok (.aload_n 0, 1) := dk_42 (dq_lk dJ5_reverse_278bc_v0 (r := 0) (x := 42) rfl)
theorem dJ5_reverse_278bc_1 : decode cJ5_reverse_278bc 1 = .ok (.getfield 15, 3) := dk_180 (dq_lk dJ5_reverse_278bc_v0 (r := 1) (x := 180) rfl) (dq_lk dJ5_reverse_278bc_v0 (r := 2) (x := 0) rfl) (dq_lk dJ5_reverse_278bc_v0 (r := 3) (x := 15) rfl)
theorem dJ5_reverse_278bc_4 : decode cJ5_reverse_278bc 4 = .ok (.astore_n 1, 1) := dk_76 (dq_lk dJ5_reverse_278bc_v0 (r := 4) (x := 76) rfl)
theorem dJ5_reverse_278bc_5 : decode cJ5_reverse_278bc 5 = .ok (.aload_n 0, 1) := dk_42 (dq_lk dJ5_reverse_278bc_v0 (r := 5) (x := 42) rfl)
theorem dJ5_reverse_278bc_6 : decode cJ5_reverse_278bc 6 = .ok (.getfield 79, 3) := dk_180 (dq_lk dJ5_reverse_278bc_v0 (r := 6) (x := 180) rfl) (dq_lk dJ5_reverse_278bc_v0 (r := 7) (x := 0) rfl) (dq_lk dJ5_reverse_278bc_v0 (r := 8) (x := 79) rfl)
theorem dJ5_reverse_278bc_9 : decode cJ5_reverse_278bc 9 = .ok (.istore_n 2, 1) := dk_61 (dq_lk dJ5_reverse_278bc_v0 (r := 9) (x := 61) rfl)
theorem dJ5_reverse_278bc_10 : decode cJ5_reverse_278bc 10 = .ok (.iload_n 2, 1) := dk_28 (dq_lk dJ5_reverse_278bc_v0 (r := 10) (x := 28) rfl)
theorem dJ5_reverse_278bc_11 : decode cJ5_reverse_278bc 11 = .ok (.iconst 1, 1) := dk_4 (dq_lk dJ5_reverse_278bc_v0 (r := 11) (x := 4) rfl)
theorem dJ5_reverse_278bc_12 : decode cJ5_reverse_278bc 12 = .ok (.isub, 1) := dk_100 (dq_lk dJ5_reverse_278bc_v0 (r := 12) (x := 100) rfl)
theorem dJ5_reverse_278bc_13 : decode cJ5_reverse_278bc 13 = .ok (.istore_n 3, 1) := dk_62 (dq_lk dJ5_reverse_278bc_v0 (r := 13) (x := 62) rfl)
theorem dJ5_reverse_278bc_14 : decode cJ5_reverse_278bc 14 = .ok (.aload_n 0, 1) := dk_42 (dq_lk dJ5_reverse_278bc_v0 (r := 14) (x := 42) rfl)
theorem dJ5_reverse_278bc_15 : decode cJ5_reverse_278bc 15 = .ok (.invokevirtual 83, 3) := dk_182 (dq_lk dJ5_reverse_278bc_v0 (r := 15) (x := 182) rfl) (dq_lk dJ5_reverse_278bc_v1 (r := 0) (x := 0) rfl) (dq_lk dJ5_reverse_278bc_v1 (r := 1) (x := 83) rfl)
theorem dJ5_reverse_278bc_18 : decode cJ5_reverse_278bc 18 = .ok (.ifCond .eq 50, 3) := dk_153 (dq_lk dJ5_reverse_278bc_v1 (r := 2) (x := 153) rfl) (dq_lk dJ5_reverse_278bc_v1 (r := 3) (x := 0) rfl) (dq_lk dJ5_reverse_278bc_v1 (r := 4) (x := 50) rfl) (by decide +kernel)
theorem dJ5_reverse_278bc_21 : decode cJ5_reverse_278bc 21 = .ok (.iload_n 3, 1) := dk_29 (dq_lk dJ5_reverse_278bc_v1 (r := 5) (x := 29) rfl)
theorem dJ5_reverse_278bc_22 : decode cJ5_reverse_278bc 22 = .ok (.iconst 1, 1) := dk_4 (dq_lk dJ5_reverse_278bc_v1 (r := 6) (x := 4) rfl)
theorem dJ5_reverse_278bc_23 : decode cJ5_reverse_278bc 23 = .ok (.isub, 1) := dk_100 (dq_lk dJ5_reverse_278bc_v1 (r := 7) (x := 100) rfl)
theorem dJ5_reverse_278bc_24 : decode cJ5_reverse_278bc 24 = .ok (.iconst 1, 1) := dk_4 (dq_lk dJ5_reverse_278bc_v1 (r := 8) (x := 4) rfl)
theorem dJ5_reverse_278bc_25 : decode cJ5_reverse_278bc 25 = .ok (.ishr, 1) := dk_122 (dq_lk dJ5_reverse_278bc_v1 (r := 9) (x := 122) rfl)
theorem dJ5_reverse_278bc_26 : decode cJ5_reverse_278bc 26 = .ok (.istore 4, 2) := dk_54 (dq_lk dJ5_reverse_278bc_v1 (r := 10) (x := 54) rfl) (dq_lk dJ5_reverse_278bc_v1 (r := 11) (x := 4) rfl)
theorem dJ5_reverse_278bc_28 : decode cJ5_reverse_278bc 28 = .ok (.iload 4, 2) := dk_21 (dq_lk dJ5_reverse_278bc_v1 (r := 12) (x := 21) rfl) (dq_lk dJ5_reverse_278bc_v1 (r := 13) (x := 4) rfl)
theorem dJ5_reverse_278bc_30 : decode cJ5_reverse_278bc 30 = .ok (.ifCond .lt 35, 3) := dk_155 (dq_lk dJ5_reverse_278bc_v1 (r := 14) (x := 155) rfl) (dq_lk dJ5_reverse_278bc_v1 (r := 15) (x := 0) rfl) (dq_lk dJ5_reverse_278bc_v2 (r := 0) (x := 35) rfl) (by decide +kernel)
theorem dJ5_reverse_278bc_33 : decode cJ5_reverse_278bc 33 = .ok (.iload_n 3, 1) := dk_29 (dq_lk dJ5_reverse_278bc_v2 (r := 1) (x := 29) rfl)
theorem dJ5_reverse_278bc_34 : decode cJ5_reverse_278bc 34 = .ok (.iload 4, 2) := dk_21 (dq_lk dJ5_reverse_278bc_v2 (r := 2) (x := 21) rfl) (dq_lk dJ5_reverse_278bc_v2 (r := 3) (x := 4) rfl)
theorem dJ5_reverse_278bc_36 : decode cJ5_reverse_278bc 36 = .ok (.isub, 1) := dk_100 (dq_lk dJ5_reverse_278bc_v2 (r := 4) (x := 100) rfl)
theorem dJ5_reverse_278bc_37 : decode cJ5_reverse_278bc 37 = .ok (.istore 5, 2) := dk_54 (dq_lk dJ5_reverse_278bc_v2 (r := 5) (x := 54) rfl) (dq_lk dJ5_reverse_278bc_v2 (r := 6) (x := 5) rfl)
theorem dJ5_reverse_278bc_39 : decode cJ5_reverse_278bc 39 = .ok (.aload_n 1, 1) := dk_43 (dq_lk dJ5_reverse_278bc_v2 (r := 7) (x := 43) rfl)
theorem dJ5_reverse_278bc_40 : decode cJ5_reverse_278bc 40 = .ok (.iload 4, 2) := dk_21 (dq_lk dJ5_reverse_278bc_v2 (r := 8) (x := 21) rfl) (dq_lk dJ5_reverse_278bc_v2 (r := 9) (x := 4) rfl)
theorem dJ5_reverse_278bc_42 : decode cJ5_reverse_278bc 42 = .ok (.baload, 1) := dk_51 (dq_lk dJ5_reverse_278bc_v2 (r := 10) (x := 51) rfl)
theorem dJ5_reverse_278bc_43 : decode cJ5_reverse_278bc 43 = .ok (.istore 6, 2) := dk_54 (dq_lk dJ5_reverse_278bc_v2 (r := 11) (x := 54) rfl) (dq_lk dJ5_reverse_278bc_v2 (r := 12) (x := 6) rfl)
theorem dJ5_reverse_278bc_45 : decode cJ5_reverse_278bc 45 = .ok (.aload_n 1, 1) := dk_43 (dq_lk dJ5_reverse_278bc_v2 (r := 13) (x := 43) rfl)
theorem dJ5_reverse_278bc_46 : decode cJ5_reverse_278bc 46 = .ok (.iload 4, 2) := dk_21 (dq_lk dJ5_reverse_278bc_v2 (r := 14) (x := 21) rfl) (dq_lk dJ5_reverse_278bc_v2 (r := 15) (x := 4) rfl)
theorem dJ5_reverse_278bc_48 : decode cJ5_reverse_278bc 48 = .ok (.aload_n 1, 1) := dk_43 (dq_lk dJ5_reverse_278bc_v3 (r := 0) (x := 43) rfl)
theorem dJ5_reverse_278bc_49 : decode cJ5_reverse_278bc 49 = .ok (.iload 5, 2) := dk_21 (dq_lk dJ5_reverse_278bc_v3 (r := 1) (x := 21) rfl) (dq_lk dJ5_reverse_278bc_v3 (r := 2) (x := 5) rfl)
theorem dJ5_reverse_278bc_51 : decode cJ5_reverse_278bc 51 = .ok (.baload, 1) := dk_51 (dq_lk dJ5_reverse_278bc_v3 (r := 3) (x := 51) rfl)
theorem dJ5_reverse_278bc_52 : decode cJ5_reverse_278bc 52 = .ok (.bastore, 1) := dk_84 (dq_lk dJ5_reverse_278bc_v3 (r := 4) (x := 84) rfl)
theorem dJ5_reverse_278bc_53 : decode cJ5_reverse_278bc 53 = .ok (.aload_n 1, 1) := dk_43 (dq_lk dJ5_reverse_278bc_v3 (r := 5) (x := 43) rfl)
theorem dJ5_reverse_278bc_54 : decode cJ5_reverse_278bc 54 = .ok (.iload 5, 2) := dk_21 (dq_lk dJ5_reverse_278bc_v3 (r := 6) (x := 21) rfl) (dq_lk dJ5_reverse_278bc_v3 (r := 7) (x := 5) rfl)
theorem dJ5_reverse_278bc_56 : decode cJ5_reverse_278bc 56 = .ok (.iload 6, 2) := dk_21 (dq_lk dJ5_reverse_278bc_v3 (r := 8) (x := 21) rfl) (dq_lk dJ5_reverse_278bc_v3 (r := 9) (x := 6) rfl)
theorem dJ5_reverse_278bc_58 : decode cJ5_reverse_278bc 58 = .ok (.bastore, 1) := dk_84 (dq_lk dJ5_reverse_278bc_v3 (r := 10) (x := 84) rfl)
theorem dJ5_reverse_278bc_59 : decode cJ5_reverse_278bc 59 = .ok (.iinc 4 (-1), 3) := dk_132 (dq_lk dJ5_reverse_278bc_v3 (r := 11) (x := 132) rfl) (dq_lk dJ5_reverse_278bc_v3 (r := 12) (x := 4) rfl) (dq_lk dJ5_reverse_278bc_v3 (r := 13) (x := 255) rfl) (by decide +kernel)
theorem dJ5_reverse_278bc_62 : decode cJ5_reverse_278bc 62 = .ok (.goto (-34), 3) := dk_167 (dq_lk dJ5_reverse_278bc_v3 (r := 14) (x := 167) rfl) (dq_lk dJ5_reverse_278bc_v3 (r := 15) (x := 255) rfl) (dq_lk dJ5_reverse_278bc_v4 (r := 0) (x := 222) rfl) (by decide +kernel)
theorem dJ5_reverse_278bc_65 : decode cJ5_reverse_278bc 65 = .ok (.goto 8, 3) := dk_167 (dq_lk dJ5_reverse_278bc_v4 (r := 1) (x := 167) rfl) (dq_lk dJ5_reverse_278bc_v4 (r := 2) (x := 0) rfl) (dq_lk dJ5_reverse_278bc_v4 (r := 3) (x := 8) rfl) (by decide +kernel)
theorem dJ5_reverse_278bc_73 : decode cJ5_reverse_278bc 73 = .ok (.aload_n 0, 1) := dk_42 (dq_lk dJ5_reverse_278bc_v4 (r := 9) (x := 42) rfl)
theorem dJ5_reverse_278bc_74 : decode cJ5_reverse_278bc 74 = .ok (.areturn, 1) := dk_176 (dq_lk dJ5_reverse_278bc_v4 (r := 10) (x := 176) rfl)
theorem dJ4_toString_0e30d_v0 : (cJ4_toString_0e30d.data.toList.drop 0).take 16 = [187, 0, 18, 89, 42, 183, 0, 137, 176] := by decide +kernel
theorem dJ4_toString_0e30d_0 : decode cJ4_toString_0e30d 0 = .ok (.new 18, 3) := dk_187 (dq_lk dJ4_toString_0e30d_v0 (r := 0) (x := 187) rfl) (dq_lk dJ4_toString_0e30d_v0 (r := 1) (x := 0) rfl) (dq_lk dJ4_toString_0e30d_v0 (r := 2) (x := 18) rfl)
theorem dJ4_toString_0e30d_3 : decode cJ4_toString_0e30d 3 = .ok (.dup, 1) := dk_89 (dq_lk dJ4_toString_0e30d_v0 (r := 3) (x := 89) rfl)
theorem dJ4_toString_0e30d_4 : decode cJ4_toString_0e30d 4 = .ok (.aload_n 0, 1) := dk_42 (dq_lk dJ4_toString_0e30d_v0 (r := 4) (x := 42) rfl)
theorem dJ4_toString_0e30d_5 : decode cJ4_toString_0e30d 5 = .ok (.invokespecial 137, 3) := dk_183 (dq_lk dJ4_toString_0e30d_v0 (r := 5) (x := 183) rfl) (dq_lk dJ4_toString_0e30d_v0 (r := 6) (x := 0) rfl) (dq_lk dJ4_toString_0e30d_v0 (r := 7) (x := 137) rfl)
theorem dJ4_toString_0e30d_8 : decode cJ4_toString_0e30d 8 = .ok (.areturn, 1) := dk_176 (dq_lk dJ4_toString_0e30d_v0 (r := 8) (x := 176) rfl)
theorem dJ0_init_81219_v0 : (cJ0_init_81219.data.toList.drop 0).take 16 = [42, 43, 1, 183, 1, 233, 177] := by decide +kernel
theorem dJ0_init_81219_0 : decode cJ0_init_81219 0 = .ok (.aload_n 0, 1) := dk_42 (dq_lk dJ0_init_81219_v0 (r := 0) (x := 42) rfl)
theorem dJ0_init_81219_1 : decode cJ0_init_81219 1 = .ok (.aload_n 1, 1) := dk_43 (dq_lk dJ0_init_81219_v0 (r := 1) (x := 43) rfl)
theorem dJ0_init_81219_2 : decode cJ0_init_81219 2 = .ok (.aconst_null, 1) := dk_1 (dq_lk dJ0_init_81219_v0 (r := 2) (x := 1) rfl)
theorem dJ0_init_81219_3 : decode cJ0_init_81219 3 = .ok (.invokespecial 489, 3) := dk_183 (dq_lk dJ0_init_81219_v0 (r := 3) (x := 183) rfl) (dq_lk dJ0_init_81219_v0 (r := 4) (x := 1) rfl) (dq_lk dJ0_init_81219_v0 (r := 5) (x := 233) rfl)
theorem dJ0_init_81219_6 : decode cJ0_init_81219 6 = .ok (.return_, 1) := dk_177 (dq_lk dJ0_init_81219_v0 (r := 6) (x := 177) rfl)
theorem dJ0_init_db425_w0 : (cJ0_init_db425.data.toList.drop 0).take 64 = [42, 183, 0, 1, 43, 182, 2, 40, 78, 43, 182, 2, 37, 54, 4, 43, 182, 4, 23, 153, 0, 22, 42, 3, 181, 0, 15, 42, 45, 3, 21, 4, 184, 0, 54, 181, 0, 9, 167, 0, 59, 178, 0, 38, 153, 0, 35, 43, 180, 4, 24, 153, 0, 28, 42, 45, 3, 21, 4, 184, 4, 27, 181, 0] := by decide +kernel
theorem dJ0_init_db425_w1 : (cJ0_init_db425.data.toList.drop 64).take 64 = [9, 42, 42, 180, 0, 9, 21, 4, 184, 0, 47, 181, 0, 15, 177, 42, 4, 181, 0, 15, 42, 45, 3, 21, 4, 4, 120, 184, 0, 54, 181, 0, 9, 177] := by decide +kernel
theorem dJ0_init_db425_v0 : (cJ0_init_db425.data.toList.drop 0).take 16 = [42, 183, 0, 1, 43, 182, 2, 40, 78, 43, 182, 2, 37, 54, 4, 43] := dq_sub (n := 0) (j := 0) dJ0_init_db425_w0 (by decide) rfl
theorem dJ0_init_db425_v1 : (cJ0_init_db425.data.toList.drop 16).take 16 = [182, 4, 23, 153, 0, 22, 42, 3, 181, 0, 15, 42, 45, 3, 21, 4] := dq_sub (n := 0) (j := 16) dJ0_init_db425_w0 (by decide) rfl
theorem dJ0_init_db425_v2 : (cJ0_init_db425.data.toList.drop 32).take 16 = [184, 0, 54, 181, 0, 9, 167, 0, 59, 178, 0, 38, 153, 0, 35, 43] := dq_sub (n := 0) (j := 32) dJ0_init_db425_w0 (by decide) rfl
theorem dJ0_init_db425_v6 : (cJ0_init_db425.data.toList.drop 96).take 16 = [9, 177] := dq_sub (n := 64) (j := 32) dJ0_init_db425_w1 (by decide) rfl
theorem dJ0_init_db425_0 : decode cJ0_init_db425 0 = .ok (.aload_n 0, 1) := dk_42 (dq_lk dJ0_init_db425_v0 (r := 0) (x := 42) rfl)
theorem dJ0_init_db425_1 : decode cJ0_init_db425 1 = .ok (.invokespecial 1, 3) := dk_183 (dq_lk dJ0_init_db425_v0 (r := 1) (x := 183) rfl) (dq_lk dJ0_init_db425_v0 (r := 2) (x := 0) rfl) (dq_lk dJ0_init_db425_v0 (r := 3) (x := 1) rfl)
theorem dJ0_init_db425_4 : decode cJ0_init_db425 4 = .ok (.aload_n 1, 1) := dk_43 (dq_lk dJ0_init_db425_v0 (r := 4) (x := 43) rfl)
theorem dJ0_init_db425_5 : decode cJ0_init_db425 5 = .ok (.invokevirtual 552, 3) := dk_182 (dq_lk dJ0_init_db425_v0 (r := 5) (x := 182) rfl) (dq_lk dJ0_init_db425_v0 (r := 6) (x := 2) rfl) (dq_lk dJ0_init_db425_v0 (r := 7) (x := 40) rfl)
theorem dJ0_init_db425_8 : decode cJ0_init_db425 8 = .ok (.astore_n 3, 1) := dk_78 (dq_lk dJ0_init_db425_v0 (r := 8) (x := 78) rfl)
theorem dJ0_init_db425_9 : decode cJ0_init_db425 9 = .ok (.aload_n 1, 1) := dk_43 (dq_lk dJ0_init_db425_v0 (r := 9) (x := 43) rfl)
theorem dJ0_init_db425_10 : decode cJ0_init_db425 10 = .ok (.invokevirtual 549, 3) := dk_182 (dq_lk dJ0_init_db425_v0 (r := 10) (x := 182) rfl) (dq_lk dJ0_init_db425_v0 (r := 11) (x := 2) rfl) (dq_lk dJ0_init_db425_v0 (r := 12) (x := 37) rfl)
theorem dJ0_init_db425_13 : decode cJ0_init_db425 13 = .ok (.istore 4, 2) := dk_54 (dq_lk dJ0_init_db425_v0 (r := 13) (x := 54) rfl) (dq_lk dJ0_init_db425_v0 (r := 14) (x := 4) rfl)
theorem dJ0_init_db425_15 : decode cJ0_init_db425 15 = .ok (.aload_n 1, 1) := dk_43 (dq_lk dJ0_init_db425_v0 (r := 15) (x := 43) rfl)
theorem dJ0_init_db425_16 : decode cJ0_init_db425 16 = .ok (.invokevirtual 1047, 3) := dk_182 (dq_lk dJ0_init_db425_v1 (r := 0) (x := 182) rfl) (dq_lk dJ0_init_db425_v1 (r := 1) (x := 4) rfl) (dq_lk dJ0_init_db425_v1 (r := 2) (x := 23) rfl)
theorem dJ0_init_db425_19 : decode cJ0_init_db425 19 = .ok (.ifCond .eq 22, 3) := dk_153 (dq_lk dJ0_init_db425_v1 (r := 3) (x := 153) rfl) (dq_lk dJ0_init_db425_v1 (r := 4) (x := 0) rfl) (dq_lk dJ0_init_db425_v1 (r := 5) (x := 22) rfl) (by decide +kernel)
theorem dJ0_init_db425_22 : decode cJ0_init_db425 22 = .ok (.aload_n 0, 1) := dk_42 (dq_lk dJ0_init_db425_v1 (r := 6) (x := 42) rfl)
theorem dJ0_init_db425_23 : decode cJ0_init_db425 23 = .ok (.iconst 0, 1) := dk_3 (dq_lk dJ0_init_db425_v1 (r := 7) (x := 3) rfl)
theorem dJ0_init_db425_24 : decode cJ0_init_db425 24 = .ok (.putfield 15, 3) := dk_181 (dq_lk dJ0_init_db425_v1 (r := 8) (x := 181) rfl) (dq_lk dJ0_init_db425_v1 (r := 9) (x := 0) rfl) (dq_lk dJ0_init_db425_v1 (r := 10) (x := 15) rfl)
theorem dJ0_init_db425_27 : decode cJ0_init_db425 27 = .ok (.aload_n 0, 1) := dk_42 (dq_lk dJ0_init_db425_v1 (r := 11) (x := 42) rfl)
theorem dJ0_init_db425_28 : decode cJ0_init_db425 28 = .ok (.aload_n 3, 1) := dk_45 (dq_lk dJ0_init_db425_v1 (r := 12) (x := 45) rfl)
theorem dJ0_init_db425_29 : decode cJ0_init_db425 29 = .ok (.iconst 0, 1) := dk_3 (dq_lk dJ0_init_db425_v1 (r := 13) (x := 3) rfl)
theorem dJ0_init_db425_30 : decode cJ0_init_db425 30 = .ok (.iload 4, 2) := dk_21 (dq_lk dJ0_init_db425_v1 (r := 14) (x := 21) rfl) (dq_lk dJ0_init_db425_v1 (r := 15) (x := 4) rfl)
theorem dJ0_init_db425_32 : decode cJ0_init_db425 32 = .ok (.invokestatic 54, 3) := dk_184 (dq_lk dJ0_init_db425_v2 (r := 0) (x := 184) rfl) (dq_lk dJ0_init_db425_v2 (r := 1) (x := 0) rfl) (dq_lk dJ0_init_db425_v2 (r := 2) (x := 54) rfl)
theorem dJ0_init_db425_35 : decode cJ0_init_db425 35 = .ok (.putfield 9, 3) := dk_181 (dq_lk dJ0_init_db425_v2 (r := 3) (x := 181) rfl) (dq_lk dJ0_init_db425_v2 (r := 4) (x := 0) rfl) (dq_lk dJ0_init_db425_v2 (r := 5) (x := 9) rfl)
theorem dJ0_init_db425_38 : decode cJ0_init_db425 38 = .ok (.goto 59, 3) := dk_167 (dq_lk dJ0_init_db425_v2 (r := 6) (x := 167) rfl) (dq_lk dJ0_init_db425_v2 (r := 7) (x := 0) rfl) (dq_lk dJ0_init_db425_v2 (r := 8) (x := 59) rfl) (by decide +kernel)
theorem dJ0_init_db425_97 : decode cJ0_init_db425 97 = .ok (.return_, 1) := dk_177 (dq_lk dJ0_init_db425_v6 (r := 1) (x := 177) rfl)
theorem dJ5_getValue_6d5f1_v0 : (cJ5_getValue_6d5f1.data.toList.drop 0).take 16 = [42, 180, 0, 15, 176] := by decide +kernel
theorem dJ5_getValue_6d5f1_0 : decode cJ5_getValue_6d5f1 0 = .ok (.aload_n 0, 1) := dk_42 (dq_lk dJ5_getValue_6d5f1_v0 (r := 0) (x := 42) rfl)
theorem dJ5_getValue_6d5f1_1 : decode cJ5_getValue_6d5f1 1 = .ok (.getfield 15, 3) := dk_180 (dq_lk dJ5_getValue_6d5f1_v0 (r := 1) (x := 180) rfl) (dq_lk dJ5_getValue_6d5f1_v0 (r := 2) (x := 0) rfl) (dq_lk dJ5_getValue_6d5f1_v0 (r := 3) (x := 15) rfl)
theorem dJ5_getValue_6d5f1_4 : decode cJ5_getValue_6d5f1 4 = .ok (.areturn, 1) := dk_176 (dq_lk dJ5_getValue_6d5f1_v0 (r := 4) (x := 176) rfl)
theorem dJ5_length_8abf5_v0 : (cJ5_length_8abf5.data.toList.drop 0).take 16 = [42, 180, 0, 79, 172] := by decide +kernel
theorem dJ5_length_8abf5_0 : decode cJ5_length_8abf5 0 = .ok (.aload_n 0, 1) := dk_42 (dq_lk dJ5_length_8abf5_v0 (r := 0) (x := 42) rfl)
theorem dJ5_length_8abf5_1 : decode cJ5_length_8abf5 1 = .ok (.getfield 79, 3) := dk_180 (dq_lk dJ5_length_8abf5_v0 (r := 1) (x := 180) rfl) (dq_lk dJ5_length_8abf5_v0 (r := 2) (x := 0) rfl) (dq_lk dJ5_length_8abf5_v0 (r := 3) (x := 79) rfl)
theorem dJ5_length_8abf5_4 : decode cJ5_length_8abf5 4 = .ok (.ireturn, 1) := dk_172 (dq_lk dJ5_length_8abf5_v0 (r := 4) (x := 172) rfl)
theorem dJ4_length_8abf5_v0 : (cJ4_length_8abf5.data.toList.drop 0).take 16 = [42, 183, 1, 87, 172] := by decide +kernel
theorem dJ4_length_8abf5_0 : decode cJ4_length_8abf5 0 = .ok (.aload_n 0, 1) := dk_42 (dq_lk dJ4_length_8abf5_v0 (r := 0) (x := 42) rfl)
theorem dJ4_length_8abf5_1 : decode cJ4_length_8abf5 1 = .ok (.invokespecial 343, 3) := dk_183 (dq_lk dJ4_length_8abf5_v0 (r := 1) (x := 183) rfl) (dq_lk dJ4_length_8abf5_v0 (r := 2) (x := 1) rfl) (dq_lk dJ4_length_8abf5_v0 (r := 3) (x := 87) rfl)
theorem dJ4_length_8abf5_4 : decode cJ4_length_8abf5 4 = .ok (.ireturn, 1) := dk_172 (dq_lk dJ4_length_8abf5_v0 (r := 4) (x := 172) rfl)
theorem dJ7_copyOfRange_39247_v0 : (cJ7_copyOfRange_39247.data.toList.drop 0).take 16 = [27, 154, 0, 9, 28, 42, 190, 159, 0, 10, 42, 27, 28, 184, 1, 83] := by decide +kernel
theorem dJ7_copyOfRange_39247_v1 : (cJ7_copyOfRange_39247.data.toList.drop 16).take 16 = [176, 42, 182, 1, 54, 192, 1, 55, 176] := by decide +kernel
theorem dJ7_copyOfRange_39247_0 : decode cJ7_copyOfRange_39247 0 = .ok (.iload_n 1, 1) := dk_27 (dq_lk dJ7_copyOfRange_39247_v0 (r := 0) (x := 27) rfl)
theorem dJ7_copyOfRange_39247_1 : decode cJ7_copyOfRange_39247 1 = .ok (.ifCond .ne 9, 3) := dk_154 (dq_lk dJ7_copyOfRange_39247_v0 (r := 1) (x := 154) rfl) (dq_lk dJ7_copyOfRange_39247_v0 (r := 2) (x := 0) rfl) (dq_lk dJ7_copyOfRange_39247_v0 (r := 3) (x := 9) rfl) (by decide +kernel)
theorem dJ7_copyOfRange_39247_4 : decode cJ7_copyOfRange_39247 4 = .ok (.iload_n 2, 1) := dk_28 (dq_lk dJ7_copyOfRange_39247_v0 (r := 4) (x := 28) rfl)
theorem dJ7_copyOfRange_39247_5 : decode cJ7_copyOfRange_39247 5 = .ok (.aload_n 0, 1) := dk_42 (dq_lk dJ7_copyOfRange_39247_v0 (r := 5) (x := 42) rfl)
theorem dJ7_copyOfRange_39247_6 : decode cJ7_copyOfRange_39247 6 = .ok (.arraylength, 1) := dk_190 (dq_lk dJ7_copyOfRange_39247_v0 (r := 6) (x := 190) rfl)
theorem dJ7_copyOfRange_39247_7 : decode cJ7_copyOfRange_39247 7 = .ok (.if_icmp .eq 10, 3) := dk_159 (dq_lk dJ7_copyOfRange_39247_v0 (r := 7) (x := 159) rfl) (dq_lk dJ7_copyOfRange_39247_v0 (r := 8) (x := 0) rfl) (dq_lk dJ7_copyOfRange_39247_v0 (r := 9) (x := 10) rfl) (by decide +kernel)
theorem dJ7_copyOfRange_39247_10 : decode cJ7_copyOfRange_39247 10 = .ok (.aload_n 0, 1) := dk_42 (dq_lk dJ7_copyOfRange_39247_v0 (r := 10) (x := 42) rfl)
theorem dJ7_copyOfRange_39247_11 : decode cJ7_copyOfRange_39247 11 = .ok (.iload_n 1, 1) := dk_27 (dq_lk dJ7_copyOfRange_39247_v0 (r := 11) (x := 27) rfl)
theorem dJ7_copyOfRange_39247_12 : decode cJ7_copyOfRange_39247 12 = .ok (.iload_n 2, 1) := dk_28 (dq_lk dJ7_copyOfRange_39247_v0 (r := 12) (x := 28) rfl)
theorem dJ7_copyOfRange_39247_13 : decode cJ7_copyOfRange_39247 13 = .ok (.invokestatic 339, 3) := dk_184 (dq_lk dJ7_copyOfRange_39247_v0 (r := 13) (x := 184) rfl) (dq_lk dJ7_copyOfRange_39247_v0 (r := 14) (x := 1) rfl) (dq_lk dJ7_copyOfRange_39247_v0 (r := 15) (x := 83) rfl)
theorem dJ7_copyOfRange_39247_16 : decode cJ7_copyOfRange_39247 16 = .ok (.areturn, 1) := dk_176 (dq_lk dJ7_copyOfRange_39247_v1 (r := 0) (x := 176) rfl)
theorem dJ7_copyOfRange_39247_17 : decode cJ7_copyOfRange_39247 17 = .ok (.aload_n 0, 1) := dk_42 (dq_lk dJ7_copyOfRange_39247_v1 (r := 1) (x := 42) rfl)
theorem dJ7_copyOfRange_39247_18 : decode cJ7_copyOfRange_39247 18 = .ok (.invokevirtual 310, 3) := dk_182 (dq_lk dJ7_copyOfRange_39247_v1 (r := 2) (x := 182) rfl) (dq_lk dJ7_copyOfRange_39247_v1 (r := 3) (x := 1) rfl) (dq_lk dJ7_copyOfRange_39247_v1 (r := 4) (x := 54) rfl)
theorem dJ7_copyOfRange_39247_21 : decode cJ7_copyOfRange_39247 21 = .ok (.checkcast 311, 3) := dk_192 (dq_lk dJ7_copyOfRange_39247_v1 (r := 5) (x := 192) rfl) (dq_lk dJ7_copyOfRange_39247_v1 (r := 6) (x := 1) rfl) (dq_lk dJ7_copyOfRange_39247_v1 (r := 7) (x := 55) rfl)
theorem dJ7_copyOfRange_39247_24 : decode cJ7_copyOfRange_39247 24 = .ok (.areturn, 1) := dk_176 (dq_lk dJ7_copyOfRange_39247_v1 (r := 8) (x := 176) rfl)
theorem dJ7_copyOfRangeByte_39247_v0 : (cJ7_copyOfRangeByte_39247.data.toList.drop 0).take 16 = [27, 28, 184, 1, 87, 28, 27, 100, 62, 29, 188, 8, 58, 4, 42, 27] := by decide +kernel
theorem dJ7_copyOfRangeByte_39247_v1 : (cJ7_copyOfRangeByte_39247.data.toList.drop 16).take 16 = [25, 4, 3, 42, 190, 27, 100, 29, 184, 1, 48, 184, 0, 150, 25, 4] := by decide +kernel
theorem dJ7_copyOfRangeByte_39247_v2 : (cJ7_copyOfRangeByte_39247.data.toList.drop 32).take 16 = [176] := by decide +kernel
theorem dJ7_copyOfRangeByte_39247_0 : decode cJ7_copyOfRangeByte_39247 0 = .ok (.iload_n 1, 1) := dk_27 (dq_lk dJ7_copyOfRangeByte_39247_v0 (r := 0) (x := 27) rfl)
theorem dJ7_copyOfRangeByte_39247_1 : decode cJ7_copyOfRangeByte_39247 1 = .ok (.iload_n 2, 1) := dk_28 (dq_lk dJ7_copyOfRangeByte_39247_v0 (r := 1) (x := 28) rfl)
theorem dJ7_copyOfRangeByte_39247_2 : decode cJ7_copyOfRangeByte_39247 2 = .ok (.invokestatic 343, 3) := dk_184 (dq_lk dJ7_copyOfRangeByte_39247_v0 (r := 2) (x := 184) rfl) (dq_lk dJ7_copyOfRangeByte_39247_v0 (r := 3) (x := 1) rfl) (dq_lk dJ7_copyOfRangeByte_39247_v0 (r := 4) (x := 87) rfl)
theorem dJ7_copyOfRangeByte_39247_5 : decode cJ7_copyOfRangeByte_39247 5 = .ok (.iload_n 2, 1) := dk_28 (dq_lk dJ7_copyOfRangeByte_39247_v0 (r := 5) (x := 28) rfl)
theorem dJ7_copyOfRangeByte_39247_6 : decode cJ7_copyOfRangeByte_39247 6 = .ok (.iload_n 1, 1) := dk_27 (dq_lk dJ7_copyOfRangeByte_39247_v0 (r := 6) (x := 27) rfl)
theorem dJ7_copyOfRangeByte_39247_7 : decode cJ7_copyOfRangeByte_39247 7 = .ok (.isub, 1) := dk_100 (dq_lk dJ7_copyOfRangeByte_39247_v0 (r := 7) (x := 100) rfl)
theorem dJ7_copyOfRangeByte_39247_8 : decode cJ7_copyOfRangeByte_39247 8 = .ok (.istore_n 3, 1) := dk_62 (dq_lk dJ7_copyOfRangeByte_39247_v0 (r := 8) (x := 62) rfl)
theorem dJ7_copyOfRangeByte_39247_9 : decode cJ7_copyOfRangeByte_39247 9 = .ok (.iload_n 3, 1) := dk_29 (dq_lk dJ7_copyOfRangeByte_39247_v0 (r := 9) (x := 29) rfl)
theorem dJ7_copyOfRangeByte_39247_10 : decode cJ7_copyOfRangeByte_39247 10 = .ok (.newarray .byte, 2) := by decide +kernel
theorem dJ7_copyOfRangeByte_39247_12 : decode cJ7_copyOfRangeByte_39247 12 = .ok (.astore 4, 2) := dk_58 (dq_lk dJ7_copyOfRangeByte_39247_v0 (r := 12) (x := 58) rfl) (dq_lk dJ7_copyOfRangeByte_39247_v0 (r := 13) (x := 4) rfl)
theorem dJ7_copyOfRangeByte_39247_14 : decode cJ7_copyOfRangeByte_39247 14 = .ok (.aload_n 0, 1) := dk_42 (dq_lk dJ7_copyOfRangeByte_39247_v0 (r := 14) (x := 42) rfl)
theorem dJ7_copyOfRangeByte_39247_15 : decode cJ7_copyOfRangeByte_39247 15 = .ok (.iload_n 1, 1) := dk_27 (dq_lk dJ7_copyOfRangeByte_39247_v0 (r := 15) (x := 27) rfl)
theorem dJ7_copyOfRangeByte_39247_16 : decode cJ7_copyOfRangeByte_39247 16 = .ok (.aload 4, 2) := dk_25 (dq_lk dJ7_copyOfRangeByte_39247_v1 (r := 0) (x := 25) rfl) (dq_lk dJ7_copyOfRangeByte_39247_v1 (r := 1) (x := 4) rfl)
theorem dJ7_copyOfRangeByte_39247_18 : decode cJ7_copyOfRangeByte_39247 18 = .ok (.iconst 0, 1) := dk_3 (dq_lk dJ7_copyOfRangeByte_39247_v1 (r := 2) (x := 3) rfl)
theorem dJ7_copyOfRangeByte_39247_19 : decode cJ7_copyOfRangeByte_39247 19 = .ok (.aload_n 0, 1) := dk_42 (dq_lk dJ7_copyOfRangeByte_39247_v1 (r := 3) (x := 42) rfl)
theorem dJ7_copyOfRangeByte_39247_20 : decode cJ7_copyOfRangeByte_39247 20 = .ok (.arraylength, 1) := dk_190 (dq_lk dJ7_copyOfRangeByte_39247_v1 (r := 4) (x := 190) rfl)
theorem dJ7_copyOfRangeByte_39247_21 : decode cJ7_copyOfRangeByte_39247 21 = .ok (.iload_n 1, 1) := dk_27 (dq_lk dJ7_copyOfRangeByte_39247_v1 (r := 5) (x := 27) rfl)
theorem dJ7_copyOfRangeByte_39247_22 : decode cJ7_copyOfRangeByte_39247 22 = .ok (.isub, 1) := dk_100 (dq_lk dJ7_copyOfRangeByte_39247_v1 (r := 6) (x := 100) rfl)
theorem dJ7_copyOfRangeByte_39247_23 : decode cJ7_copyOfRangeByte_39247 23 = .ok (.iload_n 3, 1) := dk_29 (dq_lk dJ7_copyOfRangeByte_39247_v1 (r := 7) (x := 29) rfl)
theorem dJ7_copyOfRangeByte_39247_24 : decode cJ7_copyOfRangeByte_39247 24 = .ok (.invokestatic 304, 3) := dk_184 (dq_lk dJ7_copyOfRangeByte_39247_v1 (r := 8) (x := 184) rfl) (dq_lk dJ7_copyOfRangeByte_39247_v1 (r := 9) (x := 1) rfl) (dq_lk dJ7_copyOfRangeByte_39247_v1 (r := 10) (x := 48) rfl)
theorem dJ7_copyOfRangeByte_39247_27 : decode cJ7_copyOfRangeByte_39247 27 = .ok (.invokestatic 150, 3) := dk_184 (dq_lk dJ7_copyOfRangeByte_39247_v1 (r := 11) (x := 184) rfl) (dq_lk dJ7_copyOfRangeByte_39247_v1 (r := 12) (x := 0) rfl) (dq_lk dJ7_copyOfRangeByte_39247_v1 (r := 13) (x := 150) rfl)
theorem dJ7_copyOfRangeByte_39247_30 : decode cJ7_copyOfRangeByte_39247 30 = .ok (.aload 4, 2) := dk_25 (dq_lk dJ7_copyOfRangeByte_39247_v1 (r := 14) (x := 25) rfl) (dq_lk dJ7_copyOfRangeByte_39247_v1 (r := 15) (x := 4) rfl)
theorem dJ7_copyOfRangeByte_39247_32 : decode cJ7_copyOfRangeByte_39247 32 = .ok (.areturn, 1) := dk_176 (dq_lk dJ7_copyOfRangeByte_39247_v2 (r := 0) (x := 176) rfl)
theorem dJ7_checkLength_df160_v0 : (cJ7_checkLength_df160.data.toList.drop 0).take 16 = [27, 26, 162, 0, 35, 187, 0, 43, 89, 187, 0, 45, 89, 183, 0, 47] := by decide +kernel
theorem dJ7_checkLength_df160_v2 : (cJ7_checkLength_df160.data.toList.drop 32).take 16 = [61, 183, 0, 65, 191, 177] := by decide +kernel
theorem dJ7_checkLength_df160_0 : decode cJ7_checkLength_df160 0 = .ok (.iload_n 1, 1) := dk_27 (dq_lk dJ7_checkLength_df160_v0 (r := 0) (x := 27) rfl)
theorem dJ7_checkLength_df160_1 : decode cJ7_checkLength_df160 1 = .ok (.iload_n 0, 1) := dk_26 (dq_lk dJ7_checkLength_df160_v0 (r := 1) (x := 26) rfl)
theorem dJ7_checkLength_df160_2 : decode cJ7_checkLength_df160 2 = .ok (.if_icmp .ge 35, 3) := dk_162 (dq_lk dJ7_checkLength_df160_v0 (r := 2) (x := 162) rfl) (dq_lk dJ7_checkLength_df160_v0 (r := 3) (x := 0) rfl) (dq_lk dJ7_checkLength_df160_v0 (r := 4) (x := 35) rfl) (by decide +kernel)
theorem dJ7_checkLength_df160_37 : decode cJ7_checkLength_df160 37 = .ok (.return_, 1) := dk_177 (dq_lk dJ7_checkLength_df160_v2 (r := 5) (x := 177) rfl)
theorem dJ4_append_15ec4_v0 : (cJ4_append_15ec4.data.toList.drop 0).take 16 = [42, 43, 183, 0, 29, 87, 42, 176] := by decide +kernel
theorem dJ4_append_15ec4_0 : decode cJ4_append_15ec4 0 = .ok (.aload_n 0, 1) := dk_42 (dq_lk dJ4_append_15ec4_v0 (r := 0) (x := 42) rfl)
theorem dJ4_append_15ec4_1 : decode cJ4_append_15ec4 1 = .ok (.aload_n 1, 1) := dk_43 (dq_lk dJ4_append_15ec4_v0 (r := 1) (x := 43) rfl)
theorem dJ4_append_15ec4_2 : decode cJ4_append_15ec4 2 = .ok (.invokespecial 29, 3) := dk_183 (dq_lk dJ4_append_15ec4_v0 (r := 2) (x := 183) rfl) (dq_lk dJ4_append_15ec4_v0 (r := 3) (x := 0) rfl) (dq_lk dJ4_append_15ec4_v0 (r := 4) (x := 29) rfl)
theorem dJ4_append_15ec4_5 : decode cJ4_append_15ec4 5 = .ok (.pop, 1) := dk_87 (dq_lk dJ4_append_15ec4_v0 (r := 5) (x := 87) rfl)
theorem dJ4_append_15ec4_6 : decode cJ4_append_15ec4 6 = .ok (.aload_n 0, 1) := dk_42 (dq_lk dJ4_append_15ec4_v0 (r := 6) (x := 42) rfl)
theorem dJ4_append_15ec4_7 : decode cJ4_append_15ec4 7 = .ok (.areturn, 1) := dk_176 (dq_lk dJ4_append_15ec4_v0 (r := 7) (x := 176) rfl)
theorem dJ5_append_cf1ce_v0 : (cJ5_append_cf1ce.data.toList.drop 0).take 16 = [43, 199, 0, 8, 42, 182, 0, 204, 176, 43, 182, 0, 32, 61, 42, 42] := by decide +kernel
theorem dJ5_append_cf1ce_v1 : (cJ5_append_cf1ce.data.toList.drop 16).take 16 = [180, 0, 79, 28, 96, 182, 0, 100, 42, 42, 180, 0, 79, 43, 182, 0] := by decide +kernel
theorem dJ5_append_cf1ce_v2 : (cJ5_append_cf1ce.data.toList.drop 32).take 16 = [208, 42, 89, 180, 0, 79, 28, 96, 181, 0, 79, 42, 176] := by decide +kernel
theorem dJ5_append_cf1ce_0 : decode cJ5_append_cf1ce 0 = .ok (.aload_n 1, 1) := dk_43 (dq_lk dJ5_append_cf1ce_v0 (r := 0) (x := 43) rfl)
theorem dJ5_append_cf1ce_1 : decode cJ5_append_cf1ce 1 = .ok (.ifnonnull 8, 3) := dk_199 (dq_lk dJ5_append_cf1ce_v0 (r := 1) (x := 199) rfl) (dq_lk dJ5_append_cf1ce_v0 (r := 2) (x := 0) rfl) (dq_lk dJ5_append_cf1ce_v0 (r := 3) (x := 8) rfl) (by decide +kernel)
theorem dJ5_append_cf1ce_9 : decode cJ5_append_cf1ce 9 = .ok (.aload_n 1, 1) := dk_43 (dq_lk dJ5_append_cf1ce_v0 (r := 9) (x := 43) rfl)
theorem dJ5_append_cf1ce_10 : decode cJ5_append_cf1ce 10 = .ok (.invokevirtual 32, 3) := dk_182 (dq_lk dJ5_append_cf1ce_v0 (r := 10) (x := 182) rfl) (dq_lk dJ5_append_cf1ce_v0 (r := 11) (x := 0) rfl) (dq_lk dJ5_append_cf1ce_v0 (r := 12) (x := 32) rfl)
theorem dJ5_append_cf1ce_13 : decode cJ5_append_cf1ce 13 = .ok (.istore_n 2, 1) := dk_61 (dq_lk dJ5_append_cf1ce_v0 (r := 13) (x := 61) rfl)
theorem dJ5_append_cf1ce_14 : decode cJ5_append_cf1ce 14 = .ok (.aload_n 0, 1) := dk_42 (dq_lk dJ5_append_cf1ce_v0 (r := 14) (x := 42) rfl)
theorem dJ5_append_cf1ce_15 : decode cJ5_append_cf1ce 15 = .ok (.aload_n 0, 1) := dk_42 (dq_lk dJ5_append_cf1ce_v0 (r := 15) (x := 42) rfl)
theorem dJ5_append_cf1ce_16 : decode cJ5_append_cf1ce 16 = .ok (.getfield 79, 3) := dk_180 (dq_lk dJ5_append_cf1ce_v1 (r := 0) (x := 180) rfl) (dq_lk dJ5_append_cf1ce_v1 (r := 1) (x := 0) rfl) (dq_lk dJ5_append_cf1ce_v1 (r := 2) (x := 79) rfl)
theorem dJ5_append_cf1ce_19 : decode cJ5_append_cf1ce 19 = .ok (.iload_n 2, 1) := dk_28 (dq_lk dJ5_append_cf1ce_v1 (r := 3) (x := 28) rfl)
theorem dJ5_append_cf1ce_20 : decode cJ5_append_cf1ce 20 = .ok (.iadd, 1) := dk_96 (dq_lk dJ5_append_cf1ce_v1 (r := 4) (x := 96) rfl)
theorem dJ5_append_cf1ce_21 : decode cJ5_append_cf1ce 21 = .ok (.invokevirtual 100, 3) := dk_182 (dq_lk dJ5_append_cf1ce_v1 (r := 5) (x := 182) rfl) (dq_lk dJ5_append_cf1ce_v1 (r := 6) (x := 0) rfl) (dq_lk dJ5_append_cf1ce_v1 (r := 7) (x := 100) rfl)
theorem dJ5_append_cf1ce_24 : decode cJ5_append_cf1ce 24 = .ok (.aload_n 0, 1) := dk_42 (dq_lk dJ5_append_cf1ce_v1 (r := 8) (x := 42) rfl)
theorem dJ5_append_cf1ce_25 : decode cJ5_append_cf1ce 25 = .ok (.aload_n 0, 1) := dk_42 (dq_lk dJ5_append_cf1ce_v1 (r := 9) (x := 42) rfl)
theorem dJ5_append_cf1ce_26 : decode cJ5_append_cf1ce 26 = .ok (.getfield 79, 3) := dk_180 (dq_lk dJ5_append_cf1ce_v1 (r := 10) (x := 180) rfl) (dq_lk dJ5_append_cf1ce_v1 (r := 11) (x := 0) rfl) (dq_lk dJ5_append_cf1ce_v1 (r := 12) (x := 79) rfl)
theorem dJ5_append_cf1ce_29 : decode cJ5_append_cf1ce 29 = .ok (.aload_n 1, 1) := dk_43 (dq_lk dJ5_append_cf1ce_v1 (r := 13) (x := 43) rfl)
theorem dJ5_append_cf1ce_30 : decode cJ5_append_cf1ce 30 = .ok (.invokevirtual 208, 3) := dk_182 (dq_lk dJ5_append_cf1ce_v1 (r := 14) (x := 182) rfl) (dq_lk dJ5_append_cf1ce_v1 (r := 15) (x := 0) rfl) (dq_lk dJ5_append_cf1ce_v2 (r := 0) (x := 208) rfl)
theorem dJ5_append_cf1ce_33 : decode cJ5_append_cf1ce 33 = .ok (.aload_n 0, 1) := dk_42 (dq_lk dJ5_append_cf1ce_v2 (r := 1) (x := 42) rfl)
theorem dJ5_append_cf1ce_34 : decode cJ5_append_cf1ce 34 = .ok (.dup, 1) := dk_89 (dq_lk dJ5_append_cf1ce_v2 (r := 2) (x := 89) rfl)
theorem dJ5_append_cf1ce_35 : decode cJ5_append_cf1ce 35 = .ok (.getfield 79, 3) := dk_180 (dq_lk dJ5_append_cf1ce_v2 (r := 3) (x := 180) rfl) (dq_lk dJ5_append_cf1ce_v2 (r := 4) (x := 0) rfl) (dq_lk dJ5_append_cf1ce_v2 (r := 5) (x := 79) rfl)
theorem dJ5_append_cf1ce_38 : decode cJ5_append_cf1ce 38 = .ok (.iload_n 2, 1) := dk_28 (dq_lk dJ5_append_cf1ce_v2 (r := 6) (x := 28) rfl)
theorem dJ5_append_cf1ce_39 : decode cJ5_append_cf1ce 39 = .ok (.iadd, 1) := dk_96 (dq_lk dJ5_append_cf1ce_v2 (r := 7) (x := 96) rfl)
theorem dJ5_append_cf1ce_40 : decode cJ5_append_cf1ce 40 = .ok (.putfield 79, 3) := dk_181 (dq_lk dJ5_append_cf1ce_v2 (r := 8) (x := 181) rfl) (dq_lk dJ5_append_cf1ce_v2 (r := 9) (x := 0) rfl) (dq_lk dJ5_append_cf1ce_v2 (r := 10) (x := 79) rfl)
theorem dJ5_append_cf1ce_43 : decode cJ5_append_cf1ce 43 = .ok (.aload_n 0, 1) := dk_42 (dq_lk dJ5_append_cf1ce_v2 (r := 11) (x := 42) rfl)
theorem dJ5_append_cf1ce_44 : decode cJ5_append_cf1ce 44 = .ok (.areturn, 1) := dk_176 (dq_lk dJ5_append_cf1ce_v2 (r := 12) (x := 176) rfl)
theorem dJ0_length_8abf5_v0 : (cJ0_length_8abf5.data.toList.drop 0).take 16 = [42, 180, 0, 9, 190, 42, 182, 1, 79, 122, 172] := by decide +kernel
theorem dJ0_length_8abf5_0 : decode cJ0_length_8abf5 0 = .ok (.aload_n 0, 1) := dk_42 (dq_lk dJ0_length_8abf5_v0 (r := 0) (x := 42) rfl)
theorem dJ0_length_8abf5_1 : decode cJ0_length_8abf5 1 = .ok (.getfield 9, 3) := dk_180 (dq_lk dJ0_length_8abf5_v0 (r := 1) (x := 180) rfl) (dq_lk dJ0_length_8abf5_v0 (r := 2) (x := 0) rfl) (dq_lk dJ0_length_8abf5_v0 (r := 3) (x := 9) rfl)
theorem dJ0_length_8abf5_4 : decode cJ0_length_8abf5 4 = .ok (.arraylength, 1) := dk_190 (dq_lk dJ0_length_8abf5_v0 (r := 4) (x := 190) rfl)
theorem dJ0_length_8abf5_5 : decode cJ0_length_8abf5 5 = .ok (.aload_n 0, 1) := dk_42 (dq_lk dJ0_length_8abf5_v0 (r := 5) (x := 42) rfl)
theorem dJ0_length_8abf5_6 : decode cJ0_length_8abf5 6 = .ok (.invokevirtual 335, 3) := dk_182 (dq_lk dJ0_length_8abf5_v0 (r := 6) (x := 182) rfl) (dq_lk dJ0_length_8abf5_v0 (r := 7) (x := 1) rfl) (dq_lk dJ0_length_8abf5_v0 (r := 8) (x := 79) rfl)
theorem dJ0_length_8abf5_9 : decode cJ0_length_8abf5 9 = .ok (.ishr, 1) := dk_122 (dq_lk dJ0_length_8abf5_v0 (r := 9) (x := 122) rfl)
theorem dJ0_length_8abf5_10 : decode cJ0_length_8abf5 10 = .ok (.ireturn, 1) := dk_172 (dq_lk dJ0_length_8abf5_v0 (r := 10) (x := 172) rfl)
theorem dJ0_coder_7d493_v0 : (cJ0_coder_7d493.data.toList.drop 0).take 16 = [178, 0, 38, 153, 0, 10, 42, 180, 0, 15, 167, 0, 4, 4, 172] := by decide +kernel
theorem dJ0_coder_7d493_0 : decode cJ0_coder_7d493 0 = .ok (.getstatic 38, 3) := dk_178 (dq_lk dJ0_coder_7d493_v0 (r := 0) (x := 178) rfl) (dq_lk dJ0_coder_7d493_v0 (r := 1) (x := 0) rfl) (dq_lk dJ0_coder_7d493_v0 (r := 2) (x := 38) rfl)
theorem dJ0_coder_7d493_3 : decode cJ0_coder_7d493 3 = .ok (.ifCond .eq 10, 3) := dk_153 (dq_lk dJ0_coder_7d493_v0 (r := 3) (x := 153) rfl) (dq_lk dJ0_coder_7d493_v0 (r := 4) (x := 0) rfl) (dq_lk dJ0_coder_7d493_v0 (r := 5) (x := 10) rfl) (by decide +kernel)
theorem dJ0_coder_7d493_6 : decode cJ0_coder_7d493 6 = .ok (.aload_n 0, 1) := dk_42 (dq_lk dJ0_coder_7d493_v0 (r := 6) (x := 42) rfl)
theorem dJ0_coder_7d493_7 : decode cJ0_coder_7d493 7 = .ok (.getfield 15, 3) := dk_180 (dq_lk dJ0_coder_7d493_v0 (r := 7) (x := 180) rfl) (dq_lk dJ0_coder_7d493_v0 (r := 8) (x := 0) rfl) (dq_lk dJ0_coder_7d493_v0 (r := 9) (x := 15) rfl)
theorem dJ0_coder_7d493_10 : decode cJ0_coder_7d493 10 = .ok (.goto 4, 3) := dk_167 (dq_lk dJ0_coder_7d493_v0 (r := 10) (x := 167) rfl) (dq_lk dJ0_coder_7d493_v0 (r := 11) (x := 0) rfl) (dq_lk dJ0_coder_7d493_v0 (r := 12) (x := 4) rfl) (by decide +kernel)
theorem dJ0_coder_7d493_14 : decode cJ0_coder_7d493 14 = .ok (.ireturn, 1) := dk_172 (dq_lk dJ0_coder_7d493_v0 (r := 14) (x := 172) rfl)
theorem dJ5_putStringAt_47b60_v0 : (cJ5_putStringAt_47b60.data.toList.drop 0).take 16 = [42, 44, 182, 1, 141, 44, 42, 180, 0, 15, 27, 42, 180, 0, 22, 182] := by decide +kernel
theorem dJ5_putStringAt_47b60_v1 : (cJ5_putStringAt_47b60.data.toList.drop 16).take 16 = [1, 143, 177] := by decide +kernel
theorem dJ5_putStringAt_47b60_0 : decode cJ5_putStringAt_47b60 0 = .ok (.aload_n 0, 1) := dk_42 (dq_lk dJ5_putStringAt_47b60_v0 (r := 0) (x := 42) rfl)
theorem dJ5_putStringAt_47b60_1 : decode cJ5_putStringAt_47b60 1 = .ok (.aload_n 2, 1) := dk_44 (dq_lk dJ5_putStringAt_47b60_v0 (r := 1) (x := 44) rfl)
theorem dJ5_putStringAt_47b60_2 : decode cJ5_putStringAt_47b60 2 = .ok (.invokevirtual 397, 3) := dk_182 (dq_lk dJ5_putStringAt_47b60_v0 (r := 2) (x := 182) rfl) (dq_lk dJ5_putStringAt_47b60_v0 (r := 3) (x := 1) rfl) (dq_lk dJ5_putStringAt_47b60_v0 (r := 4) (x := 141) rfl)
theorem dJ5_putStringAt_47b60_5 : decode cJ5_putStringAt_47b60 5 = .ok (.aload_n 2, 1) := dk_44 (dq_lk dJ5_putStringAt_47b60_v0 (r := 5) (x := 44) rfl)
theorem dJ5_putStringAt_47b60_6 : decode cJ5_putStringAt_47b60 6 = .ok (.aload_n 0, 1) := dk_42 (dq_lk dJ5_putStringAt_47b60_v0 (r := 6) (x := 42) rfl)
theorem dJ5_putStringAt_47b60_7 : decode cJ5_putStringAt_47b60 7 = .ok (.getfield 15, 3) := dk_180 (dq_lk dJ5_putStringAt_47b60_v0 (r := 7) (x := 180) rfl) (dq_lk dJ5_putStringAt_47b60_v0 (r := 8) (x := 0) rfl) (dq_lk dJ5_putStringAt_47b60_v0 (r := 9) (x := 15) rfl)
theorem dJ5_putStringAt_47b60_10 : decode cJ5_putStringAt_47b60 10 = .ok (.iload_n 1, 1) := dk_27 (dq_lk dJ5_putStringAt_47b60_v0 (r := 10) (x := 27) rfl)
theorem dJ5_putStringAt_47b60_11 : decode cJ5_putStringAt_47b60 11 = .ok (.aload_n 0, 1) := dk_42 (dq_lk dJ5_putStringAt_47b60_v0 (r := 11) (x := 42) rfl)
theorem dJ5_putStringAt_47b60_12 : decode cJ5_putStringAt_47b60 12 = .ok (.getfield 22, 3) := dk_180 (dq_lk dJ5_putStringAt_47b60_v0 (r := 12) (x := 180) rfl) (dq_lk dJ5_putStringAt_47b60_v0 (r := 13) (x := 0) rfl) (dq_lk dJ5_putStringAt_47b60_v0 (r := 14) (x := 22) rfl)
theorem dJ5_putStringAt_47b60_15 : decode cJ5_putStringAt_47b60 15 = .ok (.invokevirtual 399, 3) := dk_182 (dq_lk dJ5_putStringAt_47b60_v0 (r := 15) (x := 182) rfl) (dq_lk dJ5_putStringAt_47b60_v1 (r := 0) (x := 1) rfl) (dq_lk dJ5_putStringAt_47b60_v1 (r := 1) (x := 143) rfl)
theorem dJ5_putStringAt_47b60_18 : decode cJ5_putStringAt_47b60 18 = .ok (.return_, 1) := dk_177 (dq_lk dJ5_putStringAt_47b60_v1 (r := 2) (x := 177) rfl)
theorem dJ5_inflateIfNeededFor_a7421_v0 : (cJ5_inflateIfNeededFor_a7421.data.toList.drop 0).take 16 = [178, 0, 18, 153, 0, 18, 42, 180, 0, 22, 43, 182, 0, 40, 159, 0] := by decide +kernel
theorem dJ5_inflateIfNeededFor_a7421_v1 : (cJ5_inflateIfNeededFor_a7421.data.toList.drop 16).take 16 = [7, 42, 182, 0, 195, 177] := by decide +kernel
theorem dJ5_inflateIfNeededFor_a7421_0 : decode cJ5_inflateIfNeededFor_a7421 0 = .ok (.getstatic 18, 3) := dk_178 (dq_lk dJ5_inflateIfNeededFor_a7421_v0 (r := 0) (x := 178) rfl) (dq_lk dJ5_inflateIfNeededFor_a7421_v0 (r := 1) (x := 0) rfl) (dq_lk dJ5_inflateIfNeededFor_a7421_v0 (r := 2) (x := 18) rfl)
theorem dJ5_inflateIfNeededFor_a7421_3 : decode cJ5_inflateIfNeededFor_a7421 3 = .ok (.ifCond .eq 18, 3) := dk_153 (dq_lk dJ5_inflateIfNeededFor_a7421_v0 (r := 3) (x := 153) rfl) (dq_lk dJ5_inflateIfNeededFor_a7421_v0 (r := 4) (x := 0) rfl) (dq_lk dJ5_inflateIfNeededFor_a7421_v0 (r := 5) (x := 18) rfl) (by decide +kernel)
theorem dJ5_inflateIfNeededFor_a7421_6 : decode cJ5_inflateIfNeededFor_a7421 6 = .ok (.aload_n 0, 1) := dk_42 (dq_lk dJ5_inflateIfNeededFor_a7421_v0 (r := 6) (x := 42) rfl)
theorem dJ5_inflateIfNeededFor_a7421_7 : decode cJ5_inflateIfNeededFor_a7421 7 = .ok (.getfield 22, 3) := dk_180 (dq_lk dJ5_inflateIfNeededFor_a7421_v0 (r := 7) (x := 180) rfl) (dq_lk dJ5_inflateIfNeededFor_a7421_v0 (r := 8) (x := 0) rfl) (dq_lk dJ5_inflateIfNeededFor_a7421_v0 (r := 9) (x := 22) rfl)
theorem dJ5_inflateIfNeededFor_a7421_10 : decode cJ5_inflateIfNeededFor_a7421 10 = .ok (.aload_n 1, 1) := dk_43 (dq_lk dJ5_inflateIfNeededFor_a7421_v0 (r := 10) (x := 43) rfl)
theorem dJ5_inflateIfNeededFor_a7421_11 : decode cJ5_inflateIfNeededFor_a7421 11 = .ok (.invokevirtual 40, 3) := dk_182 (dq_lk dJ5_inflateIfNeededFor_a7421_v0 (r := 11) (x := 182) rfl) (dq_lk dJ5_inflateIfNeededFor_a7421_v0 (r := 12) (x := 0) rfl) (dq_lk dJ5_inflateIfNeededFor_a7421_v0 (r := 13) (x := 40) rfl)
theorem dJ5_inflateIfNeededFor_a7421_14 : decode cJ5_inflateIfNeededFor_a7421 14 = .ok (.if_icmp .eq 7, 3) := dk_159 (dq_lk dJ5_inflateIfNeededFor_a7421_v0 (r := 14) (x := 159) rfl) (dq_lk dJ5_inflateIfNeededFor_a7421_v0 (r := 15) (x := 0) rfl) (dq_lk dJ5_inflateIfNeededFor_a7421_v1 (r := 0) (x := 7) rfl) (by decide +kernel)
theorem dJ5_inflateIfNeededFor_a7421_21 : decode cJ5_inflateIfNeededFor_a7421 21 = .ok (.return_, 1) := dk_177 (dq_lk dJ5_inflateIfNeededFor_a7421_v1 (r := 5) (x := 177) rfl)
theorem dJ0_getBytes_840e7_v0 : (cJ0_getBytes_840e7.data.toList.drop 0).take 16 = [42, 182, 1, 79, 29, 160, 0, 23, 42, 180, 0, 9, 3, 43, 28, 29] := by decide +kernel
theorem dJ0_getBytes_840e7_v1 : (cJ0_getBytes_840e7.data.toList.drop 16).take 16 = [120, 42, 180, 0, 9, 190, 184, 0, 212, 167, 0, 18, 42, 180, 0, 9] := by decide +kernel
theorem dJ0_getBytes_840e7_v2 : (cJ0_getBytes_840e7.data.toList.drop 32).take 16 = [3, 43, 28, 42, 180, 0, 9, 190, 184, 0, 106, 177] := by decide +kernel
theorem dJ0_getBytes_840e7_0 : decode cJ0_getBytes_840e7 0 = .ok (.aload_n 0, 1) := dk_42 (dq_lk dJ0_getBytes_840e7_v0 (r := 0) (x := 42) rfl)
theorem dJ0_getBytes_840e7_1 : decode cJ0_getBytes_840e7 1 = .ok (.invokevirtual 335, 3) := dk_182 (dq_lk dJ0_getBytes_840e7_v0 (r := 1) (x := 182) rfl) (dq_lk dJ0_getBytes_840e7_v0 (r := 2) (x := 1) rfl) (dq_lk dJ0_getBytes_840e7_v0 (r := 3) (x := 79) rfl)
theorem dJ0_getBytes_840e7_4 : decode cJ0_getBytes_840e7 4 = .ok (.iload_n 3, 1) := dk_29 (dq_lk dJ0_getBytes_840e7_v0 (r := 4) (x := 29) rfl)
theorem dJ0_getBytes_840e7_5 : decode cJ0_getBytes_840e7 5 = .ok (.if_icmp .ne 23, 3) := dk_160 (dq_lk dJ0_getBytes_840e7_v0 (r := 5) (x := 160) rfl) (dq_lk dJ0_getBytes_840e7_v0 (r := 6) (x := 0) rfl) (dq_lk dJ0_getBytes_840e7_v0 (r := 7) (x := 23) rfl) (by decide +kernel)
theorem dJ0_getBytes_840e7_8 : decode cJ0_getBytes_840e7 8 = .ok (.aload_n 0, 1) := dk_42 (dq_lk dJ0_getBytes_840e7_v0 (r := 8) (x := 42) rfl)
theorem dJ0_getBytes_840e7_9 : decode cJ0_getBytes_840e7 9 = .ok (.getfield 9, 3) := dk_180 (dq_lk dJ0_getBytes_840e7_v0 (r := 9) (x := 180) rfl) (dq_lk dJ0_getBytes_840e7_v0 (r := 10) (x := 0) rfl) (dq_lk dJ0_getBytes_840e7_v0 (r := 11) (x := 9) rfl)
theorem dJ0_getBytes_840e7_12 : decode cJ0_getBytes_840e7 12 = .ok (.iconst 0, 1) := dk_3 (dq_lk dJ0_getBytes_840e7_v0 (r := 12) (x := 3) rfl)
theorem dJ0_getBytes_840e7_13 : decode cJ0_getBytes_840e7 13 = .ok (.aload_n 1, 1) := dk_43 (dq_lk dJ0_getBytes_840e7_v0 (r := 13) (x := 43) rfl)
theorem dJ0_getBytes_840e7_14 : decode cJ0_getBytes_840e7 14 = .ok (.iload_n 2, 1) := dk_28 (dq_lk dJ0_getBytes_840e7_v0 (r := 14) (x := 28) rfl)
theorem dJ0_getBytes_840e7_15 : decode cJ0_getBytes_840e7 15 = .ok (.iload_n 3, 1) := dk_29 (dq_lk dJ0_getBytes_840e7_v0 (r := 15) (x := 29) rfl)
theorem dJ0_getBytes_840e7_16 : decode cJ0_getBytes_840e7 16 = .ok (.ishl, 1) := dk_120 (dq_lk dJ0_getBytes_840e7_v1 (r := 0) (x := 120) rfl)
theorem dJ0_getBytes_840e7_17 : decode cJ0_getBytes_840e7 17 = .ok (.aload_n 0, 1) := dk_42 (dq_lk dJ0_getBytes_840e7_v1 (r := 1) (x := 42) rfl)
theorem dJ0_getBytes_840e7_18 : decode cJ0_getBytes_840e7 18 = .ok (.getfield 9, 3) := dk_180 (dq_lk dJ0_getBytes_840e7_v1 (r := 2) (x := 180) rfl) (dq_lk dJ0_getBytes_840e7_v1 (r := 3) (x := 0) rfl) (dq_lk dJ0_getBytes_840e7_v1 (r := 4) (x := 9) rfl)
theorem dJ0_getBytes_840e7_21 : decode cJ0_getBytes_840e7 21 = .ok (.arraylength, 1) := dk_190 (dq_lk dJ0_getBytes_840e7_v1 (r := 5) (x := 190) rfl)
theorem dJ0_getBytes_840e7_22 : decode cJ0_getBytes_840e7 22 = .ok (.invokestatic 212, 3) := dk_184 (dq_lk dJ0_getBytes_840e7_v1 (r := 6) (x := 184) rfl) (dq_lk dJ0_getBytes_840e7_v1 (r := 7) (x := 0) rfl) (dq_lk dJ0_getBytes_840e7_v1 (r := 8) (x := 212) rfl)
theorem dJ0_getBytes_840e7_25 : decode cJ0_getBytes_840e7 25 = .ok (.goto 18, 3) := dk_167 (dq_lk dJ0_getBytes_840e7_v1 (r := 9) (x := 167) rfl) (dq_lk dJ0_getBytes_840e7_v1 (r := 10) (x := 0) rfl) (dq_lk dJ0_getBytes_840e7_v1 (r := 11) (x := 18) rfl) (by decide +kernel)
theorem dJ0_getBytes_840e7_43 : decode cJ0_getBytes_840e7 43 = .ok (.return_, 1) := dk_177 (dq_lk dJ0_getBytes_840e7_v2 (r := 11) (x := 177) rfl)
theorem dJ4_append_f7089_v0 : (cJ4_append_f7089.data.toList.drop 0).take 16 = [42, 31, 183, 0, 56, 87, 42, 176] := by decide +kernel
theorem dJ4_append_f7089_0 : decode cJ4_append_f7089 0 = .ok (.aload_n 0, 1) := dk_42 (dq_lk dJ4_append_f7089_v0 (r := 0) (x := 42) rfl)
theorem dJ4_append_f7089_1 : decode cJ4_append_f7089 1 = .ok (.lload_n 1, 1) := dk_31 (dq_lk dJ4_append_f7089_v0 (r := 1) (x := 31) rfl)
theorem dJ4_append_f7089_2 : decode cJ4_append_f7089 2 = .ok (.invokespecial 56, 3) := dk_183 (dq_lk dJ4_append_f7089_v0 (r := 2) (x := 183) rfl) (dq_lk dJ4_append_f7089_v0 (r := 3) (x := 0) rfl) (dq_lk dJ4_append_f7089_v0 (r := 4) (x := 56) rfl)
theorem dJ4_append_f7089_5 : decode cJ4_append_f7089 5 = .ok (.pop, 1) := dk_87 (dq_lk dJ4_append_f7089_v0 (r := 5) (x := 87) rfl)
theorem dJ4_append_f7089_6 : decode cJ4_append_f7089 6 = .ok (.aload_n 0, 1) := dk_42 (dq_lk dJ4_append_f7089_v0 (r := 6) (x := 42) rfl)
theorem dJ4_append_f7089_7 : decode cJ4_append_f7089 7 = .ok (.areturn, 1) := dk_176 (dq_lk dJ4_append_f7089_v0 (r := 7) (x := 176) rfl)
theorem dJ5_append_66267_v0 : (cJ5_append_66267.data.toList.drop 0).take 16 = [42, 180, 0, 79, 62, 29, 31, 184, 0, 254, 96, 54, 4, 42, 21, 4] := by decide +kernel
theorem dJ5_append_66267_v1 : (cJ5_append_66267.data.toList.drop 16).take 16 = [182, 0, 100, 42, 182, 0, 83, 153, 0, 17, 31, 21, 4, 42, 180, 0] := by decide +kernel
theorem dJ5_append_66267_v2 : (cJ5_append_66267.data.toList.drop 32).take 16 = [15, 184, 1, 3, 87, 167, 0, 15, 31, 29, 21, 4, 42, 180, 0, 15] := by decide +kernel
theorem dJ5_append_66267_v3 : (cJ5_append_66267.data.toList.drop 48).take 16 = [184, 1, 6, 87, 42, 21, 4, 181, 0, 79, 42, 176] := by decide +kernel
theorem dJ5_append_66267_0 : decode cJ5_append_66267 0 = .ok (.aload_n 0, 1) := dk_42 (dq_lk dJ5_append_66267_v0 (r := 0) (x := 42) rfl)
theorem dJ5_append_66267_1 : decode cJ5_append_66267 1 = .ok (.getfield 79, 3) := dk_180 (dq_lk dJ5_append_66267_v0 (r := 1) (x := 180) rfl) (dq_lk dJ5_append_66267_v0 (r := 2) (x := 0) rfl) (dq_lk dJ5_append_66267_v0 (r := 3) (x := 79) rfl)
theorem dJ5_append_66267_4 : decode cJ5_append_66267 4 = .ok (.istore_n 3, 1) := dk_62 (dq_lk dJ5_append_66267_v0 (r := 4) (x := 62) rfl)
theorem dJ5_append_66267_5 : decode cJ5_append_66267 5 = .ok (.iload_n 3, 1) := dk_29 (dq_lk dJ5_append_66267_v0 (r := 5) (x := 29) rfl)
theorem dJ5_append_66267_6 : decode cJ5_append_66267 6 = .ok (.lload_n 1, 1) := dk_31 (dq_lk dJ5_append_66267_v0 (r := 6) (x := 31) rfl)
theorem dJ5_append_66267_7 : decode cJ5_append_66267 7 = .ok (.invokestatic 254, 3) := dk_184 (dq_lk dJ5_append_66267_v0 (r := 7) (x := 184) rfl) (dq_lk dJ5_append_66267_v0 (r := 8) (x := 0) rfl) (dq_lk dJ5_append_66267_v0 (r := 9) (x := 254) rfl)
theorem dJ5_append_66267_10 : decode cJ5_append_66267 10 = .ok (.iadd, 1) := dk_96 (dq_lk dJ5_append_66267_v0 (r := 10) (x := 96) rfl)
theorem dJ5_append_66267_11 : decode cJ5_append_66267 11 = .ok (.istore 4, 2) := dk_54 (dq_lk dJ5_append_66267_v0 (r := 11) (x := 54) rfl) (dq_lk dJ5_append_66267_v0 (r := 12) (x := 4) rfl)
theorem dJ5_append_66267_13 : decode cJ5_append_66267 13 = .ok (.aload_n 0, 1) := dk_42 (dq_lk dJ5_append_66267_v0 (r := 13) (x := 42) rfl)
theorem dJ5_append_66267_14 : decode cJ5_append_66267 14 = .ok (.iload 4, 2) := dk_21 (dq_lk dJ5_append_66267_v0 (r := 14) (x := 21) rfl) (dq_lk dJ5_append_66267_v0 (r := 15) (x := 4) rfl)
theorem dJ5_append_66267_16 : decode cJ5_append_66267 16 = .ok (.invokevirtual 100, 3) := dk_182 (dq_lk dJ5_append_66267_v1 (r := 0) (x := 182) rfl) (dq_lk dJ5_append_66267_v1 (r := 1) (x := 0) rfl) (dq_lk dJ5_append_66267_v1 (r := 2) (x := 100) rfl)
theorem dJ5_append_66267_19 : decode cJ5_append_66267 19 = .ok (.aload_n 0, 1) := dk_42 (dq_lk dJ5_append_66267_v1 (r := 3) (x := 42) rfl)
theorem dJ5_append_66267_20 : decode cJ5_append_66267 20 = .ok (.invokevirtual 83, 3) := dk_182 (dq_lk dJ5_append_66267_v1 (r := 4) (x := 182) rfl) (dq_lk dJ5_append_66267_v1 (r := 5) (x := 0) rfl) (dq_lk dJ5_append_66267_v1 (r := 6) (x := 83) rfl)
theorem dJ5_append_66267_23 : decode cJ5_append_66267 23 = .ok (.ifCond .eq 17, 3) := dk_153 (dq_lk dJ5_append_66267_v1 (r := 7) (x := 153) rfl) (dq_lk dJ5_append_66267_v1 (r := 8) (x := 0) rfl) (dq_lk dJ5_append_66267_v1 (r := 9) (x := 17) rfl) (by decide +kernel)
theorem dJ5_append_66267_26 : decode cJ5_append_66267 26 = .ok (.lload_n 1, 1) := dk_31 (dq_lk dJ5_append_66267_v1 (r := 10) (x := 31) rfl)
theorem dJ5_append_66267_27 : decode cJ5_append_66267 27 = .ok (.iload 4, 2) := dk_21 (dq_lk dJ5_append_66267_v1 (r := 11) (x := 21) rfl) (dq_lk dJ5_append_66267_v1 (r := 12) (x := 4) rfl)
theorem dJ5_append_66267_29 : decode cJ5_append_66267 29 = .ok (.aload_n 0, 1) := dk_42 (dq_lk dJ5_append_66267_v1 (r := 13) (x := 42) rfl)
theorem dJ5_append_66267_30 : decode cJ5_append_66267 30 = .ok (.getfield 15, 3) := dk_180 (dq_lk dJ5_append_66267_v1 (r := 14) (x := 180) rfl) (dq_lk dJ5_append_66267_v1 (r := 15) (x := 0) rfl) (dq_lk dJ5_append_66267_v2 (r := 0) (x := 15) rfl)
theorem dJ5_append_66267_33 : decode cJ5_append_66267 33 = .ok (.invokestatic 259, 3) := dk_184 (dq_lk dJ5_append_66267_v2 (r := 1) (x := 184) rfl) (dq_lk dJ5_append_66267_v2 (r := 2) (x := 1) rfl) (dq_lk dJ5_append_66267_v2 (r := 3) (x := 3) rfl)
theorem dJ5_append_66267_36 : decode cJ5_append_66267 36 = .ok (.pop, 1) := dk_87 (dq_lk dJ5_append_66267_v2 (r := 4) (x := 87) rfl)
theorem dJ5_append_66267_37 : decode cJ5_append_66267 37 = .ok (.goto 15, 3) := dk_167 (dq_lk dJ5_append_66267_v2 (r := 5) (x := 167) rfl) (dq_lk dJ5_append_66267_v2 (r := 6) (x := 0) rfl) (dq_lk dJ5_append_66267_v2 (r := 7) (x := 15) rfl) (by decide +kernel)
theorem dJ5_append_66267_52 : decode cJ5_append_66267 52 = .ok (.aload_n 0, 1) := dk_42 (dq_lk dJ5_append_66267_v3 (r := 4) (x := 42) rfl)
theorem dJ5_append_66267_53 : decode cJ5_append_66267 53 = .ok (.iload 4, 2) := dk_21 (dq_lk dJ5_append_66267_v3 (r := 5) (x := 21) rfl) (dq_lk dJ5_append_66267_v3 (r := 6) (x := 4) rfl)
theorem dJ5_append_66267_55 : decode cJ5_append_66267 55 = .ok (.putfield 79, 3) := dk_181 (dq_lk dJ5_append_66267_v3 (r := 7) (x := 181) rfl) (dq_lk dJ5_append_66267_v3 (r := 8) (x := 0) rfl) (dq_lk dJ5_append_66267_v3 (r := 9) (x := 79) rfl)
theorem dJ5_append_66267_58 : decode cJ5_append_66267 58 = .ok (.aload_n 0, 1) := dk_42 (dq_lk dJ5_append_66267_v3 (r := 10) (x := 42) rfl)
theorem dJ5_append_66267_59 : decode cJ5_append_66267 59 = .ok (.areturn, 1) := dk_176 (dq_lk dJ5_append_66267_v3 (r := 11) (x := 176) rfl)
theorem dJ13_stringSize_95d88_v0 : (cJ13_stringSize_95d88.data.toList.drop 0).take 16 = [4, 61, 30, 9, 148, 155, 0, 8, 3, 61, 30, 117, 63, 20, 0, 140] := by decide +kernel
theorem dJ13_stringSize_95d88_v1 : (cJ13_stringSize_95d88.data.toList.drop 16).take 16 = [66, 4, 54, 5, 21, 5, 16, 19, 162, 0, 26, 30, 33, 148, 158, 0] := by decide +kernel
theorem dJ13_stringSize_95d88_v2 : (cJ13_stringSize_95d88.data.toList.drop 32).take 16 = [8, 21, 5, 28, 96, 172, 20, 0, 53, 33, 105, 66, 132, 5, 1, 167] := by decide +kernel
theorem dJ13_stringSize_95d88_v3 : (cJ13_stringSize_95d88.data.toList.drop 48).take 16 = [255, 229, 16, 19, 28, 96, 172] := by decide +kernel
theorem dJ13_stringSize_95d88_0 : decode cJ13_stringSize_95d88 0 = .ok (.iconst 1, 1) := dk_4 (dq_lk dJ13_stringSize_95d88_v0 (r := 0) (x := 4) rfl)
theorem dJ13_stringSize_95d88_1 : decode cJ13_stringSize_95d88 1 = .ok (.istore_n 2, 1) := dk_61 (dq_lk dJ13_stringSize_95d88_v0 (r := 1) (x := 61) rfl)
theorem dJ13_stringSize_95d88_2 : decode cJ13_stringSize_95d88 2 = .ok (.lload_n 0, 1) := dk_30 (dq_lk dJ13_stringSize_95d88_v0 (r := 2) (x := 30) rfl)
theorem dJ13_stringSize_95d88_3 : decode cJ13_stringSize_95d88 3 = .ok (.lconst 0, 1) := dk_9 (dq_lk dJ13_stringSize_95d88_v0 (r := 3) (x := 9) rfl)
theorem dJ13_stringSize_95d88_4 : decode cJ13_stringSize_95d88 4 = .ok (.lcmp, 1) := dk_148 (dq_lk dJ13_stringSize_95d88_v0 (r := 4) (x := 148) rfl)
theorem dJ13_stringSize_95d88_5 : decode cJ13_stringSize_95d88 5 = .ok (.ifCond .lt 8, 3) := dk_155 (dq_lk dJ13_stringSize_95d88_v0 (r := 5) (x := 155) rfl) (dq_lk dJ13_stringSize_95d88_v0 (r := 6) (x := 0) rfl) (dq_lk dJ13_stringSize_95d88_v0 (r := 7) (x := 8) rfl) (by decide +kernel)
theorem dJ13_stringSize_95d88_8 : decode cJ13_stringSize_95d88 8 = .ok (.iconst 0, 1) := dk_3 (dq_lk dJ13_stringSize_95d88_v0 (r := 8) (x := 3) rfl)
theorem dJ13_stringSize_95d88_9 : decode cJ13_stringSize_95d88 9 = .ok (.istore_n 2, 1) := dk_61 (dq_lk dJ13_stringSize_95d88_v0 (r := 9) (x := 61) rfl)
theorem dJ13_stringSize_95d88_10 : decode cJ13_stringSize_95d88 10 = .ok (.lload_n 0, 1) := dk_30 (dq_lk dJ13_stringSize_95d88_v0 (r := 10) (x := 30) rfl)
theorem dJ13_stringSize_95d88_11 : decode cJ13_stringSize_95d88 11 = .ok (.lneg, 1) := dk_117 (dq_lk dJ13_stringSize_95d88_v0 (r := 11) (x := 117) rfl)
theorem dJ13_stringSize_95d88_12 : decode cJ13_stringSize_95d88 12 = .ok (.lstore_n 0, 1) := dk_63 (dq_lk dJ13_stringSize_95d88_v0 (r := 12) (x := 63) rfl)
theorem dJ13_stringSize_95d88_13 : decode cJ13_stringSize_95d88 13 = .ok (.ldc2_w 140, 3) := dk_20 (dq_lk dJ13_stringSize_95d88_v0 (r := 13) (x := 20) rfl) (dq_lk dJ13_stringSize_95d88_v0 (r := 14) (x := 0) rfl) (dq_lk dJ13_stringSize_95d88_v0 (r := 15) (x := 140) rfl)
theorem dJ13_stringSize_95d88_16 : decode cJ13_stringSize_95d88 16 = .ok (.lstore_n 3, 1) := dk_66 (dq_lk dJ13_stringSize_95d88_v1 (r := 0) (x := 66) rfl)
theorem dJ13_stringSize_95d88_17 : decode cJ13_stringSize_95d88 17 = .ok (.iconst 1, 1) := dk_4 (dq_lk dJ13_stringSize_95d88_v1 (r := 1) (x := 4) rfl)
theorem dJ13_stringSize_95d88_18 : decode cJ13_stringSize_95d88 18 = .ok (.istore 5, 2) := dk_54 (dq_lk dJ13_stringSize_95d88_v1 (r := 2) (x := 54) rfl) (dq_lk dJ13_stringSize_95d88_v1 (r := 3) (x := 5) rfl)
theorem dJ13_stringSize_95d88_20 : decode cJ13_stringSize_95d88 20 = .ok (.iload 5, 2) := dk_21 (dq_lk dJ13_stringSize_95d88_v1 (r := 4) (x := 21) rfl) (dq_lk dJ13_stringSize_95d88_v1 (r := 5) (x := 5) rfl)
theorem dJ13_stringSize_95d88_22 : decode cJ13_stringSize_95d88 22 = .ok (.bipush 19, 2) := dk_16 (dq_lk dJ13_stringSize_95d88_v1 (r := 6) (x := 16) rfl) (dq_lk dJ13_stringSize_95d88_v1 (r := 7) (x := 19) rfl) (by decide +kernel)
theorem dJ13_stringSize_95d88_24 : decode cJ13_stringSize_95d88 24 = .ok (.if_icmp .ge 26, 3) := dk_162 (dq_lk dJ13_stringSize_95d88_v1 (r := 8) (x := 162) rfl) (dq_lk dJ13_stringSize_95d88_v1 (r := 9) (x := 0) rfl) (dq_lk dJ13_stringSize_95d88_v1 (r := 10) (x := 26) rfl) (by decide +kernel)
theorem dJ13_stringSize_95d88_27 : decode cJ13_stringSize_95d88 27 = .ok (.lload_n 0, 1) := dk_30 (dq_lk dJ13_stringSize_95d88_v1 (r := 11) (x := 30) rfl)
theorem dJ13_stringSize_95d88_28 : decode cJ13_stringSize_95d88 28 = .ok (.lload_n 3, 1) := dk_33 (dq_lk dJ13_stringSize_95d88_v1 (r := 12) (x := 33) rfl)
theorem dJ13_stringSize_95d88_29 : decode cJ13_stringSize_95d88 29 = .ok (.lcmp, 1) := dk_148 (dq_lk dJ13_stringSize_95d88_v1 (r := 13) (x := 148) rfl)
theorem dJ13_stringSize_95d88_30 : decode cJ13_stringSize_95d88 30 = .ok (.ifCond .le 8, 3) := dk_158 (dq_lk dJ13_stringSize_95d88_v1 (r := 14) (x := 158) rfl) (dq_lk dJ13_stringSize_95d88_v1 (r := 15) (x := 0) rfl) (dq_lk dJ13_stringSize_95d88_v2 (r := 0) (x := 8) rfl) (by decide +kernel)
theorem dJ13_stringSize_95d88_33 : decode cJ13_stringSize_95d88 33 = .ok (.iload 5, 2) := dk_21 (dq_lk dJ13_stringSize_95d88_v2 (r := 1) (x := 21) rfl) (dq_lk dJ13_stringSize_95d88_v2 (r := 2) (x := 5) rfl)
theorem dJ13_stringSize_95d88_35 : decode cJ13_stringSize_95d88 35 = .ok (.iload_n 2, 1) := dk_28 (dq_lk dJ13_stringSize_95d88_v2 (r := 3) (x := 28) rfl)
theorem dJ13_stringSize_95d88_36 : decode cJ13_stringSize_95d88 36 = .ok (.iadd, 1) := dk_96 (dq_lk dJ13_stringSize_95d88_v2 (r := 4) (x := 96) rfl)
theorem dJ13_stringSize_95d88_37 : decode cJ13_stringSize_95d88 37 = .ok (.ireturn, 1) := dk_172 (dq_lk dJ13_stringSize_95d88_v2 (r := 5) (x := 172) rfl)
theorem dJ13_stringSize_95d88_38 : decode cJ13_stringSize_95d88 38 = .ok (.ldc2_w 53, 3) := dk_20 (dq_lk dJ13_stringSize_95d88_v2 (r := 6) (x := 20) rfl) (dq_lk dJ13_stringSize_95d88_v2 (r := 7) (x := 0) rfl) (dq_lk dJ13_stringSize_95d88_v2 (r := 8) (x := 53) rfl)
theorem dJ13_stringSize_95d88_41 : decode cJ13_stringSize_95d88 41 = .ok (.lload_n 3, 1) := dk_33 (dq_lk dJ13_stringSize_95d88_v2 (r := 9) (x := 33) rfl)
theorem dJ13_stringSize_95d88_42 : decode cJ13_stringSize_95d88 42 = .ok (.lmul, 1) := dk_105 (dq_lk dJ13_stringSize_95d88_v2 (r := 10) (x := 105) rfl)
theorem dJ13_stringSize_95d88_43 : decode cJ13_stringSize_95d88 43 = .ok (.lstore_n 3, 1) := dk_66 (dq_lk dJ13_stringSize_95d88_v2 (r := 11) (x := 66) rfl)
theorem dJ13_stringSize_95d88_44 : decode cJ13_stringSize_95d88 44 = .ok (.iinc 5 1, 3) := dk_132 (dq_lk dJ13_stringSize_95d88_v2 (r := 12) (x := 132) rfl) (dq_lk dJ13_stringSize_95d88_v2 (r := 13) (x := 5) rfl) (dq_lk dJ13_stringSize_95d88_v2 (r := 14) (x := 1) rfl) (by decide +kernel)
theorem dJ13_stringSize_95d88_47 : decode cJ13_stringSize_95d88 47 = .ok (.goto (-27), 3) := dk_167 (dq_lk dJ13_stringSize_95d88_v2 (r := 15) (x := 167) rfl) (dq_lk dJ13_stringSize_95d88_v3 (r := 0) (x := 255) rfl) (dq_lk dJ13_stringSize_95d88_v3 (r := 1) (x := 229) rfl) (by decide +kernel)
theorem dJ13_stringSize_95d88_50 : decode cJ13_stringSize_95d88 50 = .ok (.bipush 19, 2) := dk_16 (dq_lk dJ13_stringSize_95d88_v3 (r := 2) (x := 16) rfl) (dq_lk dJ13_stringSize_95d88_v3 (r := 3) (x := 19) rfl) (by decide +kernel)
theorem dJ13_stringSize_95d88_52 : decode cJ13_stringSize_95d88 52 = .ok (.iload_n 2, 1) := dk_28 (dq_lk dJ13_stringSize_95d88_v3 (r := 4) (x := 28) rfl)
theorem dJ13_stringSize_95d88_53 : decode cJ13_stringSize_95d88 53 = .ok (.iadd, 1) := dk_96 (dq_lk dJ13_stringSize_95d88_v3 (r := 5) (x := 96) rfl)
theorem dJ13_stringSize_95d88_54 : decode cJ13_stringSize_95d88 54 = .ok (.ireturn, 1) := dk_172 (dq_lk dJ13_stringSize_95d88_v3 (r := 6) (x := 172) rfl)
theorem dJ13_getChars_11360_w0 : (cJ13_getChars_11360.data.toList.drop 0).take 64 = [28, 54, 7, 30, 9, 148, 156, 0, 7, 4, 167, 0, 4, 3, 54, 8, 21, 8, 154, 0, 6, 30, 117, 63, 30, 20, 0, 129, 148, 157, 0, 53, 30, 20, 0, 131, 109, 55, 4, 22, 4, 20, 0, 131, 105, 30, 101, 136, 54, 6, 22, 4, 63, 45, 132, 7, 255, 21, 7, 178, 0, 133, 21, 6] := by decide +kernel
theorem dJ13_getChars_11360_w1 : (cJ13_getChars_11360.data.toList.drop 64).take 64 = [51, 84, 45, 132, 7, 255, 21, 7, 178, 0, 137, 21, 6, 51, 84, 167, 255, 201, 30, 136, 54, 10, 21, 10, 16, 156, 163, 0, 53, 21, 10, 16, 100, 108, 54, 9, 21, 9, 16, 100, 104, 21, 10, 100, 54, 6, 21, 9, 54, 10, 45, 132, 7, 255, 21, 7, 178, 0, 133, 21, 6, 51, 84, 45] := by decide +kernel
theorem dJ13_getChars_11360_w2 : (cJ13_getChars_11360.data.toList.drop 128).take 64 = [132, 7, 255, 21, 7, 178, 0, 137, 21, 6, 51, 84, 167, 255, 202, 45, 132, 7, 255, 21, 7, 178, 0, 133, 21, 10, 116, 51, 84, 21, 10, 16, 247, 162, 0, 17, 45, 132, 7, 255, 21, 7, 178, 0, 137, 21, 10, 116, 51, 84, 21, 8, 153, 0, 12, 45, 132, 7, 255, 21, 7, 16, 45, 84] := by decide +kernel
theorem dJ13_getChars_11360_w3 : (cJ13_getChars_11360.data.toList.drop 192).take 64 = [21, 7, 172] := by decide +kernel
theorem dJ13_getChars_11360_v0 : (cJ13_getChars_11360.data.toList.drop 0).take 16 = [28, 54, 7, 30, 9, 148, 156, 0, 7, 4, 167, 0, 4, 3, 54, 8] := dq_sub (n := 0) (j := 0) dJ13_getChars_11360_w0 (by decide) rfl
theorem dJ13_getChars_11360_v1 : (cJ13_getChars_11360.data.toList.drop 16).take 16 = [21, 8, 154, 0, 6, 30, 117, 63, 30, 20, 0, 129, 148, 157, 0, 53] := dq_sub (n := 0) (j := 16) dJ13_getChars_11360_w0 (by decide) rfl
theorem dJ13_getChars_11360_v2 : (cJ13_getChars_11360.data.toList.drop 32).take 16 = [30, 20, 0, 131, 109, 55, 4, 22, 4, 20, 0, 131, 105, 30, 101, 136] := dq_sub (n := 0) (j := 32) dJ13_getChars_11360_w0 (by decide) rfl
theorem dJ13_getChars_11360_v3 : (cJ13_getChars_11360.data.toList.drop 48).take 16 = [54, 6, 22, 4, 63, 45, 132, 7, 255, 21, 7, 178, 0, 133, 21, 6] := dq_sub (n := 0) (j := 48) dJ13_getChars_11360_w0 (by decide) rfl
theorem dJ13_getChars_11360_v4 : (cJ13_getChars_11360.data.toList.drop 64).take 16 = [51, 84, 45, 132, 7, 255, 21, 7, 178, 0, 137, 21, 6, 51, 84, 167] := dq_sub (n := 64) (j := 0) dJ13_getChars_11360_w1 (by decide) rfl
theorem dJ13_getChars_11360_v5 : (cJ13_getChars_11360.data.toList.drop 80).take 16 = [255, 201, 30, 136, 54, 10, 21, 10, 16, 156, 163, 0, 53, 21, 10, 16] := dq_sub (n := 64) (j := 16) dJ13_getChars_11360_w1 (by decide) rfl
theorem dJ13_getChars_11360_v6 : (cJ13_getChars_11360.data.toList.drop 96).take 16 = [100, 108, 54, 9, 21, 9, 16, 100, 104, 21, 10, 100, 54, 6, 21, 9] := dq_sub (n := 64) (j := 32) dJ13_getChars_11360_w1 (by decide) rfl
theorem dJ13_getChars_11360_v7 : (cJ13_getChars_11360.data.toList.drop 112).take 16 = [54, 10, 45, 132, 7, 255, 21, 7, 178, 0, 133, 21, 6, 51, 84, 45] := dq_sub (n := 64) (j := 48) dJ13_getChars_11360_w1 (by decide) rfl
theorem dJ13_getChars_11360_v8 : (cJ13_getChars_11360.data.toList.drop 128).take 16 = [132, 7, 255, 21, 7, 178, 0, 137, 21, 6, 51, 84, 167, 255, 202, 45] := dq_sub (n := 128) (j := 0) dJ13_getChars_11360_w2 (by decide) rfl
theorem dJ13_getChars_11360_v9 : (cJ13_getChars_11360.data.toList.drop 144).take 16 = [132, 7, 255, 21, 7, 178, 0, 133, 21, 10, 116, 51, 84, 21, 10, 16] := dq_sub (n := 128) (j := 16) dJ13_getChars_11360_w2 (by decide) rfl
theorem dJ13_getChars_11360_v10 : (cJ13_getChars_11360.data.toList.drop 160).take 16 = [247, 162, 0, 17, 45, 132, 7, 255, 21, 7, 178, 0, 137, 21, 10, 116] := dq_sub (n := 128) (j := 32) dJ13_getChars_11360_w2 (by decide) rfl
theorem dJ13_getChars_11360_v11 : (cJ13_getChars_11360.data.toList.drop 176).take 16 = [51, 84, 21, 8, 153, 0, 12, 45, 132, 7, 255, 21, 7, 16, 45, 84] := dq_sub (n := 128) (j := 48) dJ13_getChars_11360_w2 (by decide) rfl
theorem dJ13_getChars_11360_v12 : (cJ13_getChars_11360.data.toList.drop 192).take 16 = [21, 7, 172] := dq_sub (n := 192) (j := 0) dJ13_getChars_11360_w3 (by decide) rfl
theorem dJ13_getChars_11360_0 : decode cJ13_getChars_11360 0 = .ok (.iload_n 2, 1) := dk_28 (dq_lk dJ13_getChars_11360_v0 (r := 0) (x := 28) rfl)
theorem dJ13_getChars_11360_1 : decode cJ13_getChars_11360 1 = .ok (.istore 7, 2) := dk_54 (dq_lk dJ13_getChars_11360_v0 (r := 1) (x := 54) rfl) (dq_lk dJ13_getChars_11360_v0 (r := 2) (x := 7) rfl)
theorem dJ13_getChars_11360_3 : decode cJ13_getChars_11360 3 = .ok (.lload_n 0, 1) := dk_30 (dq_lk dJ13_getChars_11360_v0 (r := 3) (x := 30) rfl)
theorem dJ13_getChars_11360_4 : decode cJ13_getChars_11360 4 = .ok (.lconst 0, 1) := dk_9 (dq_lk dJ13_getChars_11360_v0 (r := 4) (x := 9) rfl)
theorem dJ13_getChars_11360_5 : decode cJ13_getChars_11360 5 = .ok (.lcmp, 1) := dk_148 (dq_lk dJ13_getChars_11360_v0 (r := 5) (x := 148) rfl)
theorem dJ13_getChars_11360_6 : decode cJ13_getChars_11360 6 = .ok (.ifCond .ge 7, 3) := dk_156 (dq_lk dJ13_getChars_11360_v0 (r := 6) (x := 156) rfl) (dq_lk dJ13_getChars_11360_v0 (r := 7) (x := 0) rfl) (dq_lk dJ13_getChars_11360_v0 (r := 8) (x := 7) rfl) (by decide +kernel)
theorem dJ13_getChars_11360_9 : decode cJ13_getChars_11360 9 = .ok (.iconst 1, 1) := dk_4 (dq_lk dJ13_getChars_11360_v0 (r := 9) (x := 4) rfl)
theorem dJ13_getChars_11360_10 : decode cJ13_getChars_11360 10 = .ok (.goto 4, 3) := dk_167 (dq_lk dJ13_getChars_11360_v0 (r := 10) (x := 167) rfl) (dq_lk dJ13_getChars_11360_v0 (r := 11) (x := 0) rfl) (dq_lk dJ13_getChars_11360_v0 (r := 12) (x := 4) rfl) (by decide +kernel)
theorem dJ13_getChars_11360_13 : decode cJ13_getChars_11360 13 = .ok (.iconst 0, 1) := dk_3 (dq_lk dJ13_getChars_11360_v0 (r := 13) (x := 3) rfl)
theorem dJ13_getChars_11360_14 : decode cJ13_getChars_11360 14 = .ok (.istore 8, 2) := dk_54 (dq_lk dJ13_getChars_11360_v0 (r := 14) (x := 54) rfl) (dq_lk dJ13_getChars_11360_v0 (r := 15) (x := 8) rfl)
theorem dJ13_getChars_11360_16 : decode cJ13_getChars_11360 16 = .ok (.iload 8, 2) := dk_21 (dq_lk dJ13_getChars_11360_v1 (r := 0) (x := 21) rfl) (dq_lk dJ13_getChars_11360_v1 (r := 1) (x := 8) rfl)
theorem dJ13_getChars_11360_18 : decode cJ13_getChars_11360 18 = .ok (.ifCond .ne 6, 3) := dk_154 (dq_lk dJ13_getChars_11360_v1 (r := 2) (x := 154) rfl) (dq_lk dJ13_getChars_11360_v1 (r := 3) (x := 0) rfl) (dq_lk dJ13_getChars_11360_v1 (r := 4) (x := 6) rfl) (by decide +kernel)
theorem dJ13_getChars_11360_21 : decode cJ13_getChars_11360 21 = .ok (.lload_n 0, 1) := dk_30 (dq_lk dJ13_getChars_11360_v1 (r := 5) (x := 30) rfl)
theorem dJ13_getChars_11360_22 : decode cJ13_getChars_11360 22 = .ok (.lneg, 1) := dk_117 (dq_lk dJ13_getChars_11360_v1 (r := 6) (x := 117) rfl)
theorem dJ13_getChars_11360_23 : decode cJ13_getChars_11360 23 = .ok (.lstore_n 0, 1) := dk_63 (dq_lk dJ13_getChars_11360_v1 (r := 7) (x := 63) rfl)
theorem dJ13_getChars_11360_24 : decode cJ13_getChars_11360 24 = .ok (.lload_n 0, 1) := dk_30 (dq_lk dJ13_getChars_11360_v1 (r := 8) (x := 30) rfl)
theorem dJ13_getChars_11360_25 : decode cJ13_getChars_11360 25 = .ok (.ldc2_w 129, 3) := dk_20 (dq_lk dJ13_getChars_11360_v1 (r := 9) (x := 20) rfl) (dq_lk dJ13_getChars_11360_v1 (r := 10) (x := 0) rfl) (dq_lk dJ13_getChars_11360_v1 (r := 11) (x := 129) rfl)
theorem dJ13_getChars_11360_28 : decode cJ13_getChars_11360 28 = .ok (.lcmp, 1) := dk_148 (dq_lk dJ13_getChars_11360_v1 (r := 12) (x := 148) rfl)
theorem dJ13_getChars_11360_29 : decode cJ13_getChars_11360 29 = .ok (.ifCond .gt 53, 3) := dk_157 (dq_lk dJ13_getChars_11360_v1 (r := 13) (x := 157) rfl) (dq_lk dJ13_getChars_11360_v1 (r := 14) (x := 0) rfl) (dq_lk dJ13_getChars_11360_v1 (r := 15) (x := 53) rfl) (by decide +kernel)
theorem dJ13_getChars_11360_32 : decode cJ13_getChars_11360 32 = .ok (.lload_n 0, 1) := dk_30 (dq_lk dJ13_getChars_11360_v2 (r := 0) (x := 30) rfl)
theorem dJ13_getChars_11360_33 : decode cJ13_getChars_11360 33 = .ok (.ldc2_w 131, 3) := dk_20 (dq_lk dJ13_getChars_11360_v2 (r := 1) (x := 20) rfl) (dq_lk dJ13_getChars_11360_v2 (r := 2) (x := 0) rfl) (dq_lk dJ13_getChars_11360_v2 (r := 3) (x := 131) rfl)
theorem dJ13_getChars_11360_36 : decode cJ13_getChars_11360 36 = .ok (.ldiv, 1) := dk_109 (dq_lk dJ13_getChars_11360_v2 (r := 4) (x := 109) rfl)
theorem dJ13_getChars_11360_37 : decode cJ13_getChars_11360 37 = .ok (.lstore 4, 2) := dk_55 (dq_lk dJ13_getChars_11360_v2 (r := 5) (x := 55) rfl) (dq_lk dJ13_getChars_11360_v2 (r := 6) (x := 4) rfl)
theorem dJ13_getChars_11360_39 : decode cJ13_getChars_11360 39 = .ok (.lload 4, 2) := dk_22 (dq_lk dJ13_getChars_11360_v2 (r := 7) (x := 22) rfl) (dq_lk dJ13_getChars_11360_v2 (r := 8) (x := 4) rfl)
theorem dJ13_getChars_11360_41 : decode cJ13_getChars_11360 41 = .ok (.ldc2_w 131, 3) := dk_20 (dq_lk dJ13_getChars_11360_v2 (r := 9) (x := 20) rfl) (dq_lk dJ13_getChars_11360_v2 (r := 10) (x := 0) rfl) (dq_lk dJ13_getChars_11360_v2 (r := 11) (x := 131) rfl)
theorem dJ13_getChars_11360_44 : decode cJ13_getChars_11360 44 = .ok (.lmul, 1) := dk_105 (dq_lk dJ13_getChars_11360_v2 (r := 12) (x := 105) rfl)
theorem dJ13_getChars_11360_45 : decode cJ13_getChars_11360 45 = .ok (.lload_n 0, 1) := dk_30 (dq_lk dJ13_getChars_11360_v2 (r := 13) (x := 30) rfl)
theorem dJ13_getChars_11360_46 : decode cJ13_getChars_11360 46 = .ok (.lsub, 1) := dk_101 (dq_lk dJ13_getChars_11360_v2 (r := 14) (x := 101) rfl)
theorem dJ13_getChars_11360_47 : decode cJ13_getChars_11360 47 = .ok (.l2i, 1) := dk_136 (dq_lk dJ13_getChars_11360_v2 (r := 15) (x := 136) rfl)
theorem dJ13_getChars_11360_48 : decode cJ13_getChars_11360 48 = .ok (.istore 6, 2) := dk_54 (dq_lk dJ13_getChars_11360_v3 (r := 0) (x := 54) rfl) (dq_lk dJ13_getChars_11360_v3 (r := 1) (x := 6) rfl)
theorem dJ13_getChars_11360_50 : decode cJ13_getChars_11360 50 = .ok (.lload 4, 2) := dk_22 (dq_lk dJ13_getChars_11360_v3 (r := 2) (x := 22) rfl) (dq_lk dJ13_getChars_11360_v3 (r := 3) (x := 4) rfl)
theorem dJ13_getChars_11360_52 : decode cJ13_getChars_11360 52 = .ok (.lstore_n 0, 1) := dk_63 (dq_lk dJ13_getChars_11360_v3 (r := 4) (x := 63) rfl)
theorem dJ13_getChars_11360_53 : decode cJ13_getChars_11360 53 = .ok (.aload_n 3, 1) := dk_45 (dq_lk dJ13_getChars_11360_v3 (r := 5) (x := 45) rfl)
theorem dJ13_getChars_11360_54 : decode cJ13_getChars_11360 54 = .ok (.iinc 7 (-1), 3) := dk_132 (dq_lk dJ13_getChars_11360_v3 (r := 6) (x := 132) rfl) (dq_lk dJ13_getChars_11360_v3 (r := 7) (x := 7) rfl) (dq_lk dJ13_getChars_11360_v3 (r := 8) (x := 255) rfl) (by decide +kernel)
theorem dJ13_getChars_11360_57 : decode cJ13_getChars_11360 57 = .ok (.iload 7, 2) := dk_21 (dq_lk dJ13_getChars_11360_v3 (r := 9) (x := 21) rfl) (dq_lk dJ13_getChars_11360_v3 (r := 10) (x := 7) rfl)
theorem dJ13_getChars_11360_59 : decode cJ13_getChars_11360 59 = .ok (.getstatic 133, 3) := dk_178 (dq_lk dJ13_getChars_11360_v3 (r := 11) (x := 178) rfl) (dq_lk dJ13_getChars_11360_v3 (r := 12) (x := 0) rfl) (dq_lk dJ13_getChars_11360_v3 (r := 13) (x := 133) rfl)
theorem dJ13_getChars_11360_62 : decode cJ13_getChars_11360 62 = .ok (.iload 6, 2) := dk_21 (dq_lk dJ13_getChars_11360_v3 (r := 14) (x := 21) rfl) (dq_lk dJ13_getChars_11360_v3 (r := 15) (x := 6) rfl)
theorem dJ13_getChars_11360_64 : decode cJ13_getChars_11360 64 = .ok (.baload, 1) := dk_51 (dq_lk dJ13_getChars_11360_v4 (r := 0) (x := 51) rfl)
theorem dJ13_getChars_11360_65 : decode cJ13_getChars_11360 65 = .ok (.bastore, 1) := dk_84 (dq_lk dJ13_getChars_11360_v4 (r := 1) (x := 84) rfl)
theorem dJ13_getChars_11360_66 : decode cJ13_getChars_11360 66 = .ok (.aload_n 3, 1) := dk_45 (dq_lk dJ13_getChars_11360_v4 (r := 2) (x := 45) rfl)
theorem dJ13_getChars_11360_67 : decode cJ13_getChars_11360 67 = .ok (.iinc 7 (-1), 3) := dk_132 (dq_lk dJ13_getChars_11360_v4 (r := 3) (x := 132) rfl) (dq_lk dJ13_getChars_11360_v4 (r := 4) (x := 7) rfl) (dq_lk dJ13_getChars_11360_v4 (r := 5) (x := 255) rfl) (by decide +kernel)
theorem dJ13_getChars_11360_70 : decode cJ13_getChars_11360 70 = .ok (.iload 7, 2) := dk_21 (dq_lk dJ13_getChars_11360_v4 (r := 6) (x := 21) rfl) (dq_lk dJ13_getChars_11360_v4 (r := 7) (x := 7) rfl)
theorem dJ13_getChars_11360_72 : decode cJ13_getChars_11360 72 = .ok (.getstatic 137, 3) := dk_178 (dq_lk dJ13_getChars_11360_v4 (r := 8) (x := 178) rfl) (dq_lk dJ13_getChars_11360_v4 (r := 9) (x := 0) rfl) (dq_lk dJ13_getChars_11360_v4 (r := 10) (x := 137) rfl)
theorem dJ13_getChars_11360_75 : decode cJ13_getChars_11360 75 = .ok (.iload 6, 2) := dk_21 (dq_lk dJ13_getChars_11360_v4 (r := 11) (x := 21) rfl) (dq_lk dJ13_getChars_11360_v4 (r := 12) (x := 6) rfl)
theorem dJ13_getChars_11360_77 : decode cJ13_getChars_11360 77 = .ok (.baload, 1) := dk_51 (dq_lk dJ13_getChars_11360_v4 (r := 13) (x := 51) rfl)
theorem dJ13_getChars_11360_78 : decode cJ13_getChars_11360 78 = .ok (.bastore, 1) := dk_84 (dq_lk dJ13_getChars_11360_v4 (r := 14) (x := 84) rfl)
theorem dJ13_getChars_11360_79 : decode cJ13_getChars_11360 79 = .ok (.goto (-55), 3) := dk_167 (dq_lk dJ13_getChars_11360_v4 (r := 15) (x := 167) rfl) (dq_lk dJ13_getChars_11360_v5 (r := 0) (x := 255) rfl) (dq_lk dJ13_getChars_11360_v5 (r := 1) (x := 201) rfl) (by decide +kernel)
theorem dJ13_getChars_11360_82 : decode cJ13_getChars_11360 82 = .ok (.lload_n 0, 1) := dk_30 (dq_lk dJ13_getChars_11360_v5 (r := 2) (x := 30) rfl)
theorem dJ13_getChars_11360_83 : decode cJ13_getChars_11360 83 = .ok (.l2i, 1) := dk_136 (dq_lk dJ13_getChars_11360_v5 (r := 3) (x := 136) rfl)
theorem dJ13_getChars_11360_84 : decode cJ13_getChars_11360 84 = .ok (.istore 10, 2) := dk_54 (dq_lk dJ13_getChars_11360_v5 (r := 4) (x := 54) rfl) (dq_lk dJ13_getChars_11360_v5 (r := 5) (x := 10) rfl)
theorem dJ13_getChars_11360_86 : decode cJ13_getChars_11360 86 = .ok (.iload 10, 2) := dk_21 (dq_lk dJ13_getChars_11360_v5 (r := 6) (x := 21) rfl) (dq_lk dJ13_getChars_11360_v5 (r := 7) (x := 10) rfl)
theorem dJ13_getChars_11360_88 : decode cJ13_getChars_11360 88 = .ok (.bipush (-100), 2) := dk_16 (dq_lk dJ13_getChars_11360_v5 (r := 8) (x := 16) rfl) (dq_lk dJ13_getChars_11360_v5 (r := 9) (x := 156) rfl) (by decide +kernel)
theorem dJ13_getChars_11360_90 : decode cJ13_getChars_11360 90 = .ok (.if_icmp .gt 53, 3) := dk_163 (dq_lk dJ13_getChars_11360_v5 (r := 10) (x := 163) rfl) (dq_lk dJ13_getChars_11360_v5 (r := 11) (x := 0) rfl) (dq_lk dJ13_getChars_11360_v5 (r := 12) (x := 53) rfl) (by decide +kernel)
theorem dJ13_getChars_11360_93 : decode cJ13_getChars_11360 93 = .ok (.iload 10, 2) := dk_21 (dq_lk dJ13_getChars_11360_v5 (r := 13) (x := 21) rfl) (dq_lk dJ13_getChars_11360_v5 (r := 14) (x := 10) rfl)
theorem dJ13_getChars_11360_95 : decode cJ13_getChars_11360 95 = .ok (.bipush 100, 2) := dk_16 (dq_lk dJ13_getChars_11360_v5 (r := 15) (x := 16) rfl) (dq_lk dJ13_getChars_11360_v6 (r := 0) (x := 100) rfl) (by decide +kernel)
theorem dJ13_getChars_11360_97 : decode cJ13_getChars_11360 97 = .ok (.idiv, 1) := dk_108 (dq_lk dJ13_getChars_11360_v6 (r := 1) (x := 108) rfl)
theorem dJ13_getChars_11360_98 : decode cJ13_getChars_11360 98 = .ok (.istore 9, 2) := dk_54 (dq_lk dJ13_getChars_11360_v6 (r := 2) (x := 54) rfl) (dq_lk dJ13_getChars_11360_v6 (r := 3) (x := 9) rfl)
theorem dJ13_getChars_11360_100 : decode cJ13_getChars_11360 100 = .ok (.iload 9, 2) := dk_21 (dq_lk dJ13_getChars_11360_v6 (r := 4) (x := 21) rfl) (dq_lk dJ13_getChars_11360_v6 (r := 5) (x := 9) rfl)
theorem dJ13_getChars_11360_102 : decode cJ13_getChars_11360 102 = .ok (.bipush 100, 2) := dk_16 (dq_lk dJ13_getChars_11360_v6 (r := 6) (x := 16) rfl) (dq_lk dJ13_getChars_11360_v6 (r := 7) (x := 100) rfl) (by decide +kernel)
theorem dJ13_getChars_11360_104 : decode cJ13_getChars_11360 104 = .ok (.imul, 1) := dk_104 (dq_lk dJ13_getChars_11360_v6 (r := 8) (x := 104) rfl)
theorem dJ13_getChars_11360_105 : decode cJ13_getChars_11360 105 = .ok (.iload 10, 2) := dk_21 (dq_lk dJ13_getChars_11360_v6 (r := 9) (x := 21) rfl) (dq_lk dJ13_getChars_11360_v6 (r := 10) (x := 10) rfl)
theorem dJ13_getChars_11360_107 : decode cJ13_getChars_11360 107 = .ok (.isub, 1) := dk_100 (dq_lk dJ13_getChars_11360_v6 (r := 11) (x := 100) rfl)
theorem dJ13_getChars_11360_108 : decode cJ13_getChars_11360 108 = .ok (.istore 6, 2) := dk_54 (dq_lk dJ13_getChars_11360_v6 (r := 12) (x := 54) rfl) (dq_lk dJ13_getChars_11360_v6 (r := 13) (x := 6) rfl)
theorem dJ13_getChars_11360_110 : decode cJ13_getChars_11360 110 = .ok (.iload 9, 2) := dk_21 (dq_lk dJ13_getChars_11360_v6 (r := 14) (x := 21) rfl) (dq_lk dJ13_getChars_11360_v6 (r := 15) (x := 9) rfl)
theorem dJ13_getChars_11360_112 : decode cJ13_getChars_11360 112 = .ok (.istore 10, 2) := dk_54 (dq_lk dJ13_getChars_11360_v7 (r := 0) (x := 54) rfl) (dq_lk dJ13_getChars_11360_v7 (r := 1) (x := 10) rfl)
theorem dJ13_getChars_11360_114 : decode cJ13_getChars_11360 114 = .ok (.aload_n 3, 1) := dk_45 (dq_lk dJ13_getChars_11360_v7 (r := 2) (x := 45) rfl)
theorem dJ13_getChars_11360_115 : decode cJ13_getChars_11360 115 = .ok (.iinc 7 (-1), 3) := dk_132 (dq_lk dJ13_getChars_11360_v7 (r := 3) (x := 132) rfl) (dq_lk dJ13_getChars_11360_v7 (r := 4) (x := 7) rfl) (dq_lk dJ13_getChars_11360_v7 (r := 5) (x := 255) rfl) (by decide +kernel)
theorem dJ13_getChars_11360_118 : decode cJ13_getChars_11360 118 = .ok (.iload 7, 2) := dk_21 (dq_lk dJ13_getChars_11360_v7 (r := 6) (x := 21) rfl) (dq_lk dJ13_getChars_11360_v7 (r := 7) (x := 7) rfl)
theorem dJ13_getChars_11360_120 : decode cJ13_getChars_11360 120 = .ok (.getstatic 133, 3) := dk_178 (dq_lk dJ13_getChars_11360_v7 (r := 8) (x := 178) rfl) (dq_lk dJ13_getChars_11360_v7 (r := 9) (x := 0) rfl) (dq_lk dJ13_getChars_11360_v7 (r := 10) (x := 133) rfl)
theorem dJ13_getChars_11360_123 : decode cJ13_getChars_11360 123 = .ok (.iload 6, 2) := dk_21 (dq_lk dJ13_getChars_11360_v7 (r := 11) (x := 21) rfl) (dq_lk dJ13_getChars_11360_v7 (r := 12) (x := 6) rfl)
theorem dJ13_getChars_11360_125 : decode cJ13_getChars_11360 125 = .ok (.baload, 1) := dk_51 (dq_lk dJ13_getChars_11360_v7 (r := 13) (x := 51) rfl)
theorem dJ13_getChars_11360_126 : decode cJ13_getChars_11360 126 = .ok (.bastore, 1) := dk_84 (dq_lk dJ13_getChars_11360_v7 (r := 14) (x := 84) rfl)
theorem dJ13_getChars_11360_127 : decode cJ13_getChars_11360 127 = .ok (.aload_n 3, 1) := dk_45 (dq_lk dJ13_getChars_11360_v7 (r := 15) (x := 45) rfl)
theorem dJ13_getChars_11360_128 : decode cJ13_getChars_11360 128 = .ok (.iinc 7 (-1), 3) := dk_132 (dq_lk dJ13_getChars_11360_v8 (r := 0) (x := 132) rfl) (dq_lk dJ13_getChars_11360_v8 (r := 1) (x := 7) rfl) (dq_lk dJ13_getChars_11360_v8 (r := 2) (x := 255) rfl) (by decide +kernel)
theorem dJ13_getChars_11360_131 : decode cJ13_getChars_11360 131 = .ok (.iload 7, 2) := dk_21 (dq_lk dJ13_getChars_11360_v8 (r := 3) (x := 21) rfl) (dq_lk dJ13_getChars_11360_v8 (r := 4) (x := 7) rfl)
theorem dJ13_getChars_11360_133 : decode cJ13_getChars_11360 133 = .ok (.getstatic 137, 3) := dk_178 (dq_lk dJ13_getChars_11360_v8 (r := 5) (x := 178) rfl) (dq_lk dJ13_getChars_11360_v8 (r := 6) (x := 0) rfl) (dq_lk dJ13_getChars_11360_v8 (r := 7) (x := 137) rfl)
theorem dJ13_getChars_11360_136 : decode cJ13_getChars_11360 136 = .ok (.iload 6, 2) := dk_21 (dq_lk dJ13_getChars_11360_v8 (r := 8) (x := 21) rfl) (dq_lk dJ13_getChars_11360_v8 (r := 9) (x := 6) rfl)
theorem dJ13_getChars_11360_138 : decode cJ13_getChars_11360 138 = .ok (.baload, 1) := dk_51 (dq_lk dJ13_getChars_11360_v8 (r := 10) (x := 51) rfl)
theorem dJ13_getChars_11360_139 : decode cJ13_getChars_11360 139 = .ok (.bastore, 1) := dk_84 (dq_lk dJ13_getChars_11360_v8 (r := 11) (x := 84) rfl)
theorem dJ13_getChars_11360_140 : decode cJ13_getChars_11360 140 = .ok (.goto (-54), 3) := dk_167 (dq_lk dJ13_getChars_11360_v8 (r := 12) (x := 167) rfl) (dq_lk dJ13_getChars_11360_v8 (r := 13) (x := 255) rfl) (dq_lk dJ13_getChars_11360_v8 (r := 14) (x := 202) rfl) (by decide +kernel)
theorem dJ13_getChars_11360_143 : decode cJ13_getChars_11360 143 = .ok (.aload_n 3, 1) := dk_45 (dq_lk dJ13_getChars_11360_v8 (r := 15) (x := 45) rfl)
theorem dJ13_getChars_11360_144 : decode cJ13_getChars_11360 144 = .ok (.iinc 7 (-1), 3) := dk_132 (dq_lk dJ13_getChars_11360_v9 (r := 0) (x := 132) rfl) (dq_lk dJ13_getChars_11360_v9 (r := 1) (x := 7) rfl) (dq_lk dJ13_getChars_11360_v9 (r := 2) (x := 255) rfl) (by decide +kernel)
theorem dJ13_getChars_11360_147 : decode cJ13_getChars_11360 147 = .ok (.iload 7, 2) := dk_21 (dq_lk dJ13_getChars_11360_v9 (r := 3) (x := 21) rfl) (dq_lk dJ13_getChars_11360_v9 (r := 4) (x := 7) rfl)
theorem dJ13_getChars_11360_149 : decode cJ13_getChars_11360 149 = .ok (.getstatic 133, 3) := dk_178 (dq_lk dJ13_getChars_11360_v9 (r := 5) (x := 178) rfl) (dq_lk dJ13_getChars_11360_v9 (r := 6) (x := 0) rfl) (dq_lk dJ13_getChars_11360_v9 (r := 7) (x := 133) rfl)
theorem dJ13_getChars_11360_152 : decode cJ13_getChars_11360 152 = .ok (.iload 10, 2) := dk_21 (dq_lk dJ13_getChars_11360_v9 (r := 8) (x := 21) rfl) (dq_lk dJ13_getChars_11360_v9 (r := 9) (x := 10) rfl)
theorem dJ13_getChars_11360_154 : decode cJ13_getChars_11360 154 = .ok (.ineg, 1) := dk_116 (dq_lk dJ13_getChars_11360_v9 (r := 10) (x := 116) rfl)
theorem dJ13_getChars_11360_155 : decode cJ13_getChars_11360 155 = .ok (.baload, 1) := dk_51 (dq_lk dJ13_getChars_11360_v9 (r := 11) (x := 51) rfl)
theorem dJ13_getChars_11360_156 : decode cJ13_getChars_11360 156 = .ok (.bastore, 1) := dk_84 (dq_lk dJ13_getChars_11360_v9 (r := 12) (x := 84) rfl)
theorem dJ13_getChars_11360_157 : decode cJ13_getChars_11360 157 = .ok (.iload 10, 2) := dk_21 (dq_lk dJ13_getChars_11360_v9 (r := 13) (x := 21) rfl) (dq_lk dJ13_getChars_11360_v9 (r := 14) (x := 10) rfl)
theorem dJ13_getChars_11360_159 : decode cJ13_getChars_11360 159 = .ok (.bipush (-9), 2) := dk_16 (dq_lk dJ13_getChars_11360_v9 (r := 15) (x := 16) rfl) (dq_lk dJ13_getChars_11360_v10 (r := 0) (x := 247) rfl) (by decide +kernel)
theorem dJ13_getChars_11360_161 : decode cJ13_getChars_11360 161 = .ok (.if_icmp .ge 17, 3) := dk_162 (dq_lk dJ13_getChars_11360_v10 (r := 1) (x := 162) rfl) (dq_lk dJ13_getChars_11360_v10 (r := 2) (x := 0) rfl) (dq_lk dJ13_getChars_11360_v10 (r := 3) (x := 17) rfl) (by decide +kernel)
theorem dJ13_getChars_11360_164 : decode cJ13_getChars_11360 164 = .ok (.aload_n 3, 1) := dk_45 (dq_lk dJ13_getChars_11360_v10 (r := 4) (x := 45) rfl)
theorem dJ13_getChars_11360_165 : decode cJ13_getChars_11360 165 = .ok (.iinc 7 (-1), 3) := dk_132 (dq_lk dJ13_getChars_11360_v10 (r := 5) (x := 132) rfl) (dq_lk dJ13_getChars_11360_v10 (r := 6) (x := 7) rfl) (dq_lk dJ13_getChars_11360_v10 (r := 7) (x := 255) rfl) (by decide +kernel)
theorem dJ13_getChars_11360_168 : decode cJ13_getChars_11360 168 = .ok (.iload 7, 2) := dk_21 (dq_lk dJ13_getChars_11360_v10 (r := 8) (x := 21) rfl) (dq_lk dJ13_getChars_11360_v10 (r := 9) (x := 7) rfl)
theorem dJ13_getChars_11360_170 : decode cJ13_getChars_11360 170 = .ok (.getstatic 137, 3) := dk_178 (dq_lk dJ13_getChars_11360_v10 (r := 10) (x := 178) rfl) (dq_lk dJ13_getChars_11360_v10 (r := 11) (x := 0) rfl) (dq_lk dJ13_getChars_11360_v10 (r := 12) (x := 137) rfl)
theorem dJ13_getChars_11360_173 : decode cJ13_getChars_11360 173 = .ok (.iload 10, 2) := dk_21 (dq_lk dJ13_getChars_11360_v10 (r := 13) (x := 21) rfl) (dq_lk dJ13_getChars_11360_v10 (r := 14) (x := 10) rfl)
theorem dJ13_getChars_11360_175 : decode cJ13_getChars_11360 175 = .ok (.ineg, 1) := dk_116 (dq_lk dJ13_getChars_11360_v10 (r := 15) (x := 116) rfl)
theorem dJ13_getChars_11360_176 : decode cJ13_getChars_11360 176 = .ok (.baload, 1) := dk_51 (dq_lk dJ13_getChars_11360_v11 (r := 0) (x := 51) rfl)
theorem dJ13_getChars_11360_177 : decode cJ13_getChars_11360 177 = .ok (.bastore, 1) := dk_84 (dq_lk dJ13_getChars_11360_v11 (r := 1) (x := 84) rfl)
theorem dJ13_getChars_11360_178 : decode cJ13_getChars_11360 178 = .ok (.iload 8, 2) := dk_21 (dq_lk dJ13_getChars_11360_v11 (r := 2) (x := 21) rfl) (dq_lk dJ13_getChars_11360_v11 (r := 3) (x := 8) rfl)
theorem dJ13_getChars_11360_180 : decode cJ13_getChars_11360 180 = .ok (.ifCond .eq 12, 3) := dk_153 (dq_lk dJ13_getChars_11360_v11 (r := 4) (x := 153) rfl) (dq_lk dJ13_getChars_11360_v11 (r := 5) (x := 0) rfl) (dq_lk dJ13_getChars_11360_v11 (r := 6) (x := 12) rfl) (by decide +kernel)
theorem dJ13_getChars_11360_183 : decode cJ13_getChars_11360 183 = .ok (.aload_n 3, 1) := dk_45 (dq_lk dJ13_getChars_11360_v11 (r := 7) (x := 45) rfl)
theorem dJ13_getChars_11360_184 : decode cJ13_getChars_11360 184 = .ok (.iinc 7 (-1), 3) := dk_132 (dq_lk dJ13_getChars_11360_v11 (r := 8) (x := 132) rfl) (dq_lk dJ13_getChars_11360_v11 (r := 9) (x := 7) rfl) (dq_lk dJ13_getChars_11360_v11 (r := 10) (x := 255) rfl) (by decide +kernel)
theorem dJ13_getChars_11360_187 : decode cJ13_getChars_11360 187 = .ok (.iload 7, 2) := dk_21 (dq_lk dJ13_getChars_11360_v11 (r := 11) (x := 21) rfl) (dq_lk dJ13_getChars_11360_v11 (r := 12) (x := 7) rfl)
theorem dJ13_getChars_11360_189 : decode cJ13_getChars_11360 189 = .ok (.bipush 45, 2) := dk_16 (dq_lk dJ13_getChars_11360_v11 (r := 13) (x := 16) rfl) (dq_lk dJ13_getChars_11360_v11 (r := 14) (x := 45) rfl) (by decide +kernel)
theorem dJ13_getChars_11360_191 : decode cJ13_getChars_11360 191 = .ok (.bastore, 1) := dk_84 (dq_lk dJ13_getChars_11360_v11 (r := 15) (x := 84) rfl)
theorem dJ13_getChars_11360_192 : decode cJ13_getChars_11360 192 = .ok (.iload 7, 2) := dk_21 (dq_lk dJ13_getChars_11360_v12 (r := 0) (x := 21) rfl) (dq_lk dJ13_getChars_11360_v12 (r := 1) (x := 7) rfl)
theorem dJ13_getChars_11360_194 : decode cJ13_getChars_11360 194 = .ok (.ireturn, 1) := dk_172 (dq_lk dJ13_getChars_11360_v12 (r := 2) (x := 172) rfl)
end
-- 35 jdk
section
/-! Text methods of the JDK, their contracts. (Rows by a program of this repository.) -/
/-- a StringBuilder of Latin-1 letters: the object and its bytes, in front of a world -/
def mSb (b v : Nat) (ml : Int32) (n : Nat) (cB : ClassId) (m : Nat) (f : Nat → Int32) (rest : va_W) : va_W := (b, .inr (1, [.ref v, .int 0, .int ml, .int (nI n)])) :: (v, .inl (cB, m, .inl f)) :: rest
set_option maxHeartbeats 1000000 in
theorem c_isLatin1 (tys : List (ClassId × FieldType)) (ws : va_W) (q b : Nat) (x0 x2 x3 : Value) (he : ws[q]? = some (b, .inr (1, [x0, .int 0, x2, x3]))) : mCt tys yJ5_isLatin1_aae02 cJ5_isLatin1_aae02 1 (some .boolean) ⟨0, 0, 0, 0⟩ [.ref b] ws (fun v ws' => v = some (.int 1) ∧ ws' = ws) mNo := by
  refine mCt.of (by decide +kernel) (Nat.le_of_ble_eq_true rfl) (fun X hX hE => ?_)
  replace hX : mOK X RJ5 cJ5_isLatin1_aae02 1 ⟨0, 0, 0, 0⟩ [] tys := hX
  refine r_compact hX jfl_J5_18 dJ5_isLatin1_aae02_0 (r_if_eq (tgt := 17) hX dJ5_isLatin1_aae02_3 (by decide) (fun c9 => absurd c9 (by decide)) (fun _ => ?_))
  refine r_aload_n hX dJ5_isLatin1_aae02_6 rfl rfl (r_get hX jf_J5_22 q he rfl dJ5_isLatin1_aae02_7 (r_if_ne (tgt := 17) hX dJ5_isLatin1_aae02_10 (by decide) (fun c9 => absurd rfl c9) (fun _ => ?_)))
  refine r_iconst (v := 1) hX dJ5_isLatin1_aae02_13 (by decide) (r_goto (tgt := 18) hX dJ5_isLatin1_aae02_14 (by decide) ?_)
  exact r_zret hX hE dJ5_isLatin1_aae02_18 (by decide) (Nat.le_of_ble_eq_true rfl) (Nat.le_of_ble_eq_true rfl) ⟨rfl, rfl⟩
theorem mmaxN {a b : Nat} (h : a ≤ b) (hb : b < 2 ^ 30) : (if nI a < nI b then nI b else nI a) = nI b := by
  by_cases e : a < b
  · exact if_pos (nI_lt e (by omega))
  · have e2 : a = b := by omega
    subst e2
    exact if_neg (nI_nlt (Nat.le_refl a) (by omega))
theorem mminN {a b : Nat} (h : a ≤ b) (hb : b < 2 ^ 30) : (if nI b < nI a then nI b else nI a) = nI a := if_neg (nI_nlt h (by omega))
set_option maxHeartbeats 1000000 in
theorem c_newLength (tys : List (ClassId × FieldType)) (ws : va_W) (m a b : Nat) (hab : a ≤ b) (hb : 1 ≤ b) (hm : m + b < 100000) : mCt tys yJ8_newLength_cabcc cJ8_newLength_cabcc 4 (some .int) ⟨1, 0, 0, 20⟩ [.int (nI m), .int (nI a), .int (nI b)] ws (fun v ws' => v = some (.int (nI (m + b))) ∧ ws' = ws) mNo := by
  refine mCt.of (by decide +kernel) (Nat.le_of_ble_eq_true rfl) (fun X hX hE => ?_)
  replace hX : mOK X RJ8 cJ8_newLength_cabcc 4 ⟨1, 0, 0, 20⟩ [] tys := hX
  refine r_iload_n hX dJ8_newLength_cabcc_0 rfl rfl (r_iload_n hX dJ8_newLength_cabcc_1 rfl rfl (r_iload_n hX dJ8_newLength_cabcc_2 rfl rfl (r_mmax hX jl_J8_194 (Nat.le_of_ble_eq_true rfl) (Nat.le_of_ble_eq_true rfl) (Nat.le_of_ble_eq_true rfl) (Nat.le_of_ble_eq_true rfl) dJ8_newLength_cabcc_3 ?_)))
  rw [mmaxN hab (by omega)]
  refine r_iadd hX dJ8_newLength_cabcc_6 ?_
  rw [nI_add]
  refine r_istore_n hX dJ8_newLength_cabcc_7 rfl (by decide) rfl (r_iconst (v := 0) hX dJ8_newLength_cabcc_8 (by decide) (r_iload_n hX dJ8_newLength_cabcc_9 rfl rfl (r_icmp_ge (tgt := 21) hX dJ8_newLength_cabcc_10 (by decide) (fun c9 => absurd c9 (nI_nle (by omega) (by omega))) (fun _ => ?_))))
  refine r_iload_n hX dJ8_newLength_cabcc_13 rfl rfl (r_ldc hX jc_J8_200 dJ8_newLength_cabcc_14 (r_icmp_gt (tgt := 21) hX dJ8_newLength_cabcc_16 (by decide) (fun c9 => absurd c9 (show ¬ nI 2147483639 < nI (m + b) from nI_nlt (by omega) (by decide))) (fun _ => ?_)))
  refine r_iload_n hX dJ8_newLength_cabcc_19 rfl rfl ?_
  exact r_iret hX hE dJ8_newLength_cabcc_20 (Nat.le_of_ble_eq_true rfl) (Nat.le_of_ble_eq_true rfl) ⟨rfl, rfl⟩
set_option maxHeartbeats 1000000 in
theorem c_newCapacity (cs : ClassId × ClassId × ClassId) (cB : ClassId) (b v : Nat) (ml : Int32) (n m q : Nat) (f : Nat → Int32) (rest : va_W) (h1 : m < q) (h2 : q ≤ 2 * m + 2) (h3 : m ≤ 31) : mCt (mTb4 cs cB) yJ5_newCapacity_0f7a4 cJ5_newCapacity_0f7a4 6 (some .int) ⟨2, 0, 0, 50⟩ [.ref b, .int (nI q)] (mSb b v ml n cB m f rest) (fun v9 ws' => v9 = some (.int (nI (2 * m + 2))) ∧ ws' = mSb b v ml n cB m f rest) mNo := by
  refine mCt.of (by decide +kernel) (Nat.le_of_ble_eq_true rfl) (fun X hX hE => ?_)
  replace hX : mOK X RJ5 cJ5_newCapacity_0f7a4 6 ⟨2, 0, 0, 50⟩ [] (mTb4 cs cB) := hX
  refine r_aload_n hX dJ5_newCapacity_0f7a4_0 rfl rfl (r_get hX jf_J5_15 0 rfl rfl dJ5_newCapacity_0f7a4_1 (r_alen (v := nI m) hX 1 3 rfl rfl rfl dJ5_newCapacity_0f7a4_4 (r_istore_n hX dJ5_newCapacity_0f7a4_5 rfl (by decide) rfl (r_iload_n hX dJ5_newCapacity_0f7a4_6 rfl rfl (r_aload_n hX dJ5_newCapacity_0f7a4_7 rfl rfl (r_get hX jf_J5_22 0 rfl rfl dJ5_newCapacity_0f7a4_8 (r_ishl hX dJ5_newCapacity_0f7a4_11 ?_)))))))
  refine r_istore_n hX dJ5_newCapacity_0f7a4_12 rfl (by decide) rfl (r_iload_n hX dJ5_newCapacity_0f7a4_13 rfl rfl (r_iload_n hX dJ5_newCapacity_0f7a4_14 rfl rfl (r_isub hX dJ5_newCapacity_0f7a4_15 ?_)))
  rw [pk_sub (show m ≤ q by omega)]
  refine r_istore hX dJ5_newCapacity_0f7a4_16 (by decide) rfl (r_iload_n hX dJ5_newCapacity_0f7a4_18 rfl rfl (r_iload hX dJ5_newCapacity_0f7a4_19 rfl (r_iload_n hX dJ5_newCapacity_0f7a4_21 rfl rfl (r_iconst (v := 2) hX dJ5_newCapacity_0f7a4_22 (by decide) (r_aload_n hX dJ5_newCapacity_0f7a4_23 rfl rfl (r_get hX jf_J5_22 0 rfl rfl dJ5_newCapacity_0f7a4_24 (r_ishl hX dJ5_newCapacity_0f7a4_27 ?_)))))))
  refine r_iadd hX dJ5_newCapacity_0f7a4_28 ?_
  rw [show nI m + 2 = nI (m + 2) from nI_add m 2]
  refine r_callS hX (c_newLength _ _ m (q - m) (m + 2) (by omega) (by omega) (by omega)) js_J5_114 rfl rfl (Nat.le_of_ble_eq_true rfl) ⟨(Nat.le_of_ble_eq_true rfl), (Nat.le_of_ble_eq_true rfl)⟩ ⟨(Nat.le_of_ble_eq_true rfl), (Nat.le_of_ble_eq_true rfl)⟩ dJ5_newCapacity_0f7a4_29 (fun _ _ z => False.elim z) (fun v9 ws9 h9 => ?_)
  obtain ⟨rfl, hw9⟩ := h9
  subst ws9
  dsimp only [mPush]
  rw [show m + (m + 2) = 2 * m + 2 by omega]
  refine r_istore hX dJ5_newCapacity_0f7a4_32 (by decide) rfl (r_iload hX dJ5_newCapacity_0f7a4_34 rfl (r_ldc hX jc_J5_39 dJ5_newCapacity_0f7a4_36 (r_icmp_ne (tgt := 51) hX dJ5_newCapacity_0f7a4_38 (by decide) (fun _ => ?_) (fun c9 => absurd ((nI_eq (by omega) (by decide)).mp (show nI (2 * m + 2) = nI 2147483647 from Classical.not_not.mp c9)) (by omega)))))
  refine r_iload hX dJ5_newCapacity_0f7a4_51 rfl (r_aload_n hX dJ5_newCapacity_0f7a4_53 rfl rfl (r_get hX jf_J5_22 0 rfl rfl dJ5_newCapacity_0f7a4_54 (r_ishr hX dJ5_newCapacity_0f7a4_57 ?_)))
  exact r_iret hX hE dJ5_newCapacity_0f7a4_58 (Nat.le_of_ble_eq_true rfl) (Nat.le_of_ble_eq_true rfl) ⟨rfl, rfl⟩
set_option maxHeartbeats 1000000 in
theorem c_copyOf (cs : ClassId × ClassId × ClassId) (cB : ClassId) (ws : va_W) (q0 v m L : Nat) (f : Nat → Int32) (he : ws[q0]? = some (v, .inl (cB, m, .inl f))) (hf : sb_Fit f) (h1 : m < L) (h2 : L ≤ 64) : mCt (mTb4 cs cB) yJ7_copyOf_9075b cJ7_copyOf_9075b 3 (some (.array .byte)) ⟨1, 1, 64, 110⟩ [.ref v, .int (nI L)] ws (fun v9 ws' => ∃ (r : Nat) (g : Nat → Int32), sb_Fit g ∧ v9 = some (.ref r) ∧ ws' = (r, .inl (cB, L, .inl g)) :: ws) mNo := by
  refine mCt.of (by decide +kernel) (Nat.le_of_ble_eq_true rfl) (fun X hX hE => ?_)
  replace hX : mOK X RJ7 cJ7_copyOf_9075b 3 ⟨1, 1, 64, 110⟩ [] (mTb4 cs cB) := hX
  refine r_iload_n hX dJ7_copyOf_9075b_0 rfl rfl (r_aload_n hX dJ7_copyOf_9075b_1 rfl rfl (r_alen (v := nI m) hX q0 3 he rfl rfl dJ7_copyOf_9075b_2 (r_icmp_ne (tgt := 14) hX dJ7_copyOf_9075b_3 (by decide) (fun _ => ?_) (fun c9 => absurd ((nI_eq (by omega) (by omega)).mp (show nI L = nI m from Classical.not_not.mp c9)) (by omega)))))
  refine r_iload_n hX dJ7_copyOf_9075b_14 rfl rfl (r_newB hX 3 rfl (by omega) dJ7_copyOf_9075b_15 (Nat.le_of_ble_eq_true rfl) (show 0 + L ≤ 64 by omega) (fun r => ?_))
  refine r_astore_n hX dJ7_copyOf_9075b_17 rfl (by decide) rfl (r_aload_n hX dJ7_copyOf_9075b_18 rfl rfl (r_iconst (v := 0) hX dJ7_copyOf_9075b_19 (by decide) (r_aload_n hX dJ7_copyOf_9075b_20 rfl rfl (r_iconst (v := 0) hX dJ7_copyOf_9075b_21 (by decide) (r_aload_n hX dJ7_copyOf_9075b_22 rfl rfl (r_alen (v := nI m) hX (q0 + 1) 3 he rfl rfl dJ7_copyOf_9075b_23 (r_iload_n hX dJ7_copyOf_9075b_24 rfl rfl ?_)))))))
  refine r_mmin hX jl_J7_304 (Nat.le_of_ble_eq_true rfl) (Nat.le_of_ble_eq_true rfl) (Nat.le_of_ble_eq_true rfl) (show 0 + L ≤ 64 by omega) dJ7_copyOf_9075b_25 ?_
  rw [mminN (show m ≤ L by omega) (by omega)]
  refine r_copyb hX jl_J7_150 (q0 + 1) 0 3 3 he rfl rfl rfl (by decide) (by decide) (nI_pos (by omega)) (by rw [nI_clamp (by omega)]; show 0 + m ≤ m; omega) (by rw [nI_clamp (by omega)]; show 0 + m ≤ L; omega) hf (Nat.le_of_ble_eq_true rfl) (Nat.le_of_ble_eq_true rfl) dJ7_copyOf_9075b_28 (r_aload_n hX dJ7_copyOf_9075b_31 rfl rfl ?_)
  exact r_aret hX hE dJ7_copyOf_9075b_32 (Or.inr ⟨_, rfl⟩) (Or.inr ⟨_, rfl⟩) (Nat.le_of_ble_eq_true rfl) (show 0 + L ≤ 64 by omega) ⟨r, _, sb_fitC hf sb_fit0, rfl, rfl⟩
set_option maxHeartbeats 1000000 in
theorem c_ensure (cs : ClassId × ClassId × ClassId) (cB : ClassId) (b v : Nat) (ml : Int32) (n m q : Nat) (f : Nat → Int32) (rest : va_W) (hf : sb_Fit f) (hq : q ≤ m ∨ (q ≤ 2 * m + 2 ∧ m ≤ 31)) (hm : m ≤ 64) : mCt (mTb4 cs cB) yJ5_ensureCapacityInternal_d00df cJ5_ensureCapacityInternal_d00df 3 none ⟨3, 1, 64, 140⟩ [.ref b, .int (nI q)] (mSb b v ml n cB m f rest) (fun v9 ws' => v9 = none ∧ ∃ (v' : Nat) (f' : Nat → Int32), sb_Fit f' ∧ ws' = mSb b v' ml n cB (if q ≤ m then m else 2 * m + 2) f' rest) mNo := by
  refine mCt.of (by decide +kernel) (Nat.le_of_ble_eq_true rfl) (fun X hX hE => ?_)
  replace hX : mOK X RJ5 cJ5_ensureCapacityInternal_d00df 3 ⟨3, 1, 64, 140⟩ [] (mTb4 cs cB) := hX
  refine r_aload_n hX dJ5_ensureCapacityInternal_d00df_0 rfl rfl (r_get hX jf_J5_15 0 rfl rfl dJ5_ensureCapacityInternal_d00df_1 (r_alen (v := nI m) hX 1 3 rfl rfl rfl dJ5_ensureCapacityInternal_d00df_4 (r_aload_n hX dJ5_ensureCapacityInternal_d00df_5 rfl rfl (r_get hX jf_J5_22 0 rfl rfl dJ5_ensureCapacityInternal_d00df_6 (r_ishr hX dJ5_ensureCapacityInternal_d00df_9 (r_istore_n hX dJ5_ensureCapacityInternal_d00df_10 rfl (by decide) rfl (r_iload_n hX dJ5_ensureCapacityInternal_d00df_11 rfl rfl ?_)))))))
  refine r_iload_n hX dJ5_ensureCapacityInternal_d00df_12 rfl rfl (r_isub hX dJ5_ensureCapacityInternal_d00df_13 ?_)
  have e1 : (nI q - nI m).toInt = (q : Int) - m := pk_sub_toInt (by omega) (by omega)
  refine r_if_le (tgt := 38) hX dJ5_ensureCapacityInternal_d00df_14 (by decide) (fun c9 => ?_) (fun c9 => ?_)
  · have h9 : q ≤ m := by rw [Int32.le_iff_toInt_le, e1, Int32.toInt_zero] at c9; omega
    exact r_vret hX hE dJ5_ensureCapacityInternal_d00df_38 (Nat.le_of_ble_eq_true rfl) (Nat.le_of_ble_eq_true rfl) ⟨rfl, v, f, hf, by rw [if_pos h9]⟩
  have h9 : ¬ q ≤ m := by rw [Int32.le_iff_toInt_le, e1, Int32.toInt_zero] at c9; omega
  refine r_aload_n hX dJ5_ensureCapacityInternal_d00df_17 rfl rfl (r_aload_n hX dJ5_ensureCapacityInternal_d00df_18 rfl rfl (r_get hX jf_J5_15 0 rfl rfl dJ5_ensureCapacityInternal_d00df_19 (r_aload_n hX dJ5_ensureCapacityInternal_d00df_22 rfl rfl (r_iload_n hX dJ5_ensureCapacityInternal_d00df_23 rfl rfl (r_callU hX mGT_h (c_newCapacity cs cB b v ml n m q f rest (by omega) (by omega) (by omega)).ofg ju_J5_104 0 rfl (show vwCl[1]? = _ from rfl) rfl rfl (Nat.le_of_ble_eq_true rfl) ⟨(Nat.le_of_ble_eq_true rfl), (Nat.le_of_ble_eq_true rfl)⟩ ⟨(Nat.le_of_ble_eq_true rfl), (Nat.le_of_ble_eq_true rfl)⟩ dJ5_ensureCapacityInternal_d00df_24 (fun v9 ws9 h8 => ?_))))))
  obtain ⟨rfl, hw9⟩ := h8
  subst ws9
  dsimp only [mPush]
  refine r_aload_n hX dJ5_ensureCapacityInternal_d00df_27 rfl rfl (r_get hX jf_J5_22 0 rfl rfl dJ5_ensureCapacityInternal_d00df_28 (r_ishl hX dJ5_ensureCapacityInternal_d00df_31 (r_callS hX (c_copyOf cs cB _ 1 v m (2 * m + 2) f rfl hf (by omega) (by omega)) js_J5_108 rfl rfl (Nat.le_of_ble_eq_true rfl) ⟨(Nat.le_of_ble_eq_true rfl), (Nat.le_of_ble_eq_true rfl)⟩ ⟨(Nat.le_of_ble_eq_true rfl), (Nat.le_of_ble_eq_true rfl)⟩ dJ5_ensureCapacityInternal_d00df_32 (fun _ _ z => False.elim z) (fun v9 ws9 h8 => ?_))))
  obtain ⟨r, g, hg9, rfl, hw9⟩ := h8
  subst ws9
  dsimp only [mPush]
  refine r_put hX jf_J5_15 1 rfl rfl rfl rfl (Nat.le_of_ble_eq_true rfl) dJ5_ensureCapacityInternal_d00df_35 (r_part (B := [(r, .inl (cB, 2 * m + 2, .inl g)), (b, .inr (1, [.ref r, .int 0, .int ml, .int (nI n)])), (v, .inl (cB, m, .inl f))]) (C := mSb b r ml n cB (2 * m + 2) g []) (pl := rest) [1, 0] rfl rfl ?_)
  exact r_vret hX hE dJ5_ensureCapacityInternal_d00df_38 (Nat.le_of_ble_eq_true rfl) (Nat.le_of_ble_eq_true rfl) ⟨rfl, r, g, hg9, by rw [if_neg h9]; rfl⟩
end
-- 36 jdk
section
/-! Text methods of the JDK, their contracts. (Rows by a program of this repository.) -/
set_option maxHeartbeats 1000000 in
theorem c_canEncode (tys : List (ClassId × FieldType)) (ws : va_W) (c : Nat) (hc : c < 256) : mCt tys yJ1_canEncode_fc78d cJ1_canEncode_fc78d 1 (some .boolean) ⟨0, 0, 0, 0⟩ [.int (nI c)] ws (fun v ws' => v = some (.int 1) ∧ ws' = ws) mNo := by
  refine mCt.of (by decide +kernel) (Nat.le_of_ble_eq_true rfl) (fun X hX hE => ?_)
  replace hX : mOK X RJ1 cJ1_canEncode_fc78d 1 ⟨0, 0, 0, 0⟩ [] tys := hX
  refine r_iload_n hX dJ1_canEncode_fc78d_0 rfl rfl (r_sipush (v := 255) hX dJ1_canEncode_fc78d_1 (by decide) (r_icmp_gt (tgt := 11) hX dJ1_canEncode_fc78d_4 (by decide) (fun c9 => absurd c9 (show ¬ nI 255 < nI c from nI_nlt (by omega) (by decide))) (fun _ => ?_)))
  refine r_iconst (v := 1) hX dJ1_canEncode_fc78d_7 (by decide) (r_goto (tgt := 12) hX dJ1_canEncode_fc78d_8 (by decide) ?_)
  exact r_zret hX hE dJ1_canEncode_fc78d_12 (by decide) (Nat.le_of_ble_eq_true rfl) (Nat.le_of_ble_eq_true rfl) ⟨rfl, rfl⟩
set_option maxHeartbeats 1000000 in
theorem c_asbInit (cs : ClassId × ClassId × ClassId) (cB : ClassId) (b : Nat) (rest : va_W) : mCt (mTb4 cs cB) yJ5_init_d00df cJ5_init_d00df 2 none ⟨1, 1, 16, 20⟩ [.ref b, .int (nI 16)] ((b, .inr (1, [.null, .int 0, .int 0, .int 0])) :: rest) (fun v9 ws' => v9 = none ∧ ∃ (v : Nat) (f : Nat → Int32), sb_Fit f ∧ ws' = mSb b v 0 0 cB 16 f rest) mNo := by
  refine mCt.of (by decide +kernel) (Nat.le_of_ble_eq_true rfl) (fun X hX hE => ?_)
  replace hX : mOK X RJ5 cJ5_init_d00df 2 ⟨1, 1, 16, 20⟩ [] (mTb4 cs cB) := hX
  refine r_aload_n hX dJ5_init_d00df_0 rfl rfl (r_objInit hX job_J5 (Nat.le_of_ble_eq_true rfl) (Nat.le_of_ble_eq_true rfl) dJ5_init_d00df_1 (r_compact hX jfl_J5_18 dJ5_init_d00df_4 (r_if_eq (tgt := 25) hX dJ5_init_d00df_7 (by decide) (fun c9 => absurd c9 (by decide)) (fun _ => ?_))))
  refine r_aload_n hX dJ5_init_d00df_10 rfl rfl (r_iload_n hX dJ5_init_d00df_11 rfl rfl (r_newB (N := 16) hX 3 rfl (by decide) dJ5_init_d00df_12 (Nat.le_of_ble_eq_true rfl) (Nat.le_of_ble_eq_true rfl) (fun r => ?_)))
  refine r_put hX jf_J5_15 1 rfl rfl rfl rfl (Nat.le_of_ble_eq_true rfl) dJ5_init_d00df_14 (r_aload_n hX dJ5_init_d00df_17 rfl rfl (r_iconst (v := 0) hX dJ5_init_d00df_18 (by decide) (r_put hX jf_J5_22 1 rfl rfl rfl rfl (Nat.le_of_ble_eq_true rfl) dJ5_init_d00df_19 (r_goto (tgt := 38) hX dJ5_init_d00df_22 (by decide) (r_part (B := [(r, .inl (cB, 16, .inl (fun _ => 0))), (b, .inr (1, [.ref r, .int 0, .int 0, .int 0]))]) (C := mSb b r 0 0 cB 16 (fun _ => 0) []) (pl := rest) [1, 0] rfl rfl ?_)))))
  exact r_vret hX hE dJ5_init_d00df_38 (Nat.le_of_ble_eq_true rfl) (Nat.le_of_ble_eq_true rfl) ⟨rfl, r, _, sb_fit0, rfl⟩
set_option maxHeartbeats 1000000 in
theorem c_sbInit (cs : ClassId × ClassId × ClassId) (cB : ClassId) (b : Nat) (rest : va_W) : mCt (mTb4 cs cB) yJ4_init_da8c8 cJ4_init_da8c8 1 none ⟨2, 1, 16, 50⟩ [.ref b] ((b, .inr (1, [.null, .int 0, .int 0, .int 0])) :: rest) (fun v9 ws' => v9 = none ∧ ∃ (v : Nat) (f : Nat → Int32), sb_Fit f ∧ ws' = mSb b v 0 0 cB 16 f rest) mNo := by
  refine mCt.of (by decide +kernel) (Nat.le_of_ble_eq_true rfl) (fun X hX hE => ?_)
  replace hX : mOK X RJ4 cJ4_init_da8c8 1 ⟨2, 1, 16, 50⟩ [] (mTb4 cs cB) := hX
  refine r_aload_n hX dJ4_init_da8c8_0 rfl rfl (r_bipush (v := nI 16) hX dJ4_init_da8c8_1 (by decide +kernel) (r_callI hX (c_asbInit cs cB b rest) ji_J4_1 rfl rfl (Nat.le_of_ble_eq_true rfl) ⟨(Nat.le_of_ble_eq_true rfl), (Nat.le_of_ble_eq_true rfl)⟩ ⟨(Nat.le_of_ble_eq_true rfl), (Nat.le_of_ble_eq_true rfl)⟩ dJ4_init_da8c8_3 (fun v9 ws9 h9 => ?_)))
  obtain ⟨rfl, v, f, hf, hw9⟩ := h9
  subst ws9
  dsimp only [mPush]
  exact r_vret hX hE dJ4_init_da8c8_6 (Nat.le_of_ble_eq_true rfl) (Nat.le_of_ble_eq_true rfl) ⟨rfl, v, f, hf, rfl⟩
set_option maxHeartbeats 1000000 in
theorem c_asbAppendC (cs : ClassId × ClassId × ClassId) (cB : ClassId) (b v : Nat) (ml : Int32) (n m c : Nat) (f : Nat → Int32) (rest : va_W) (hf : sb_Fit f) (hq : n + 1 ≤ m ∨ (n ≤ m ∧ m ≤ 31)) (hm : m ≤ 64) (hc : c < 256) : mCt (mTb4 cs cB) yJ5_append_3fe6f cJ5_append_3fe6f 2 (some (.object "java/lang/AbstractStringBuilder")) ⟨4, 1, 64, 170⟩ [.ref b, .int (nI c)] (mSb b v ml n cB m f rest) (fun v9 ws' => v9 = some (.ref b) ∧ ∃ (v' : Nat) (f' : Nat → Int32), sb_Fit f' ∧ ws' = mSb b v' ml (n + 1) cB (if n + 1 ≤ m then m else 2 * m + 2) f' rest) mNo := by
  refine mCt.of (by decide +kernel) (Nat.le_of_ble_eq_true rfl) (fun X hX hE => ?_)
  replace hX : mOK X RJ5 cJ5_append_3fe6f 2 ⟨4, 1, 64, 170⟩ [] (mTb4 cs cB) := hX
  refine r_aload_n hX dJ5_append_3fe6f_0 rfl rfl (r_aload_n hX dJ5_append_3fe6f_1 rfl rfl (r_get hX jf_J5_79 0 rfl rfl dJ5_append_3fe6f_2 (r_iconst (v := 1) hX dJ5_append_3fe6f_5 (by decide) (r_iadd hX dJ5_append_3fe6f_6 ?_))))
  rw [nI_1]
  refine r_callU hX mGT_h (c_ensure cs cB b v ml n m (n + 1) f rest hf (by omega) hm).ofg ju_J5_100 0 rfl (show vwCl[1]? = _ from rfl) rfl rfl (Nat.le_of_ble_eq_true rfl) ⟨(Nat.le_of_ble_eq_true rfl), (Nat.le_of_ble_eq_true rfl)⟩ ⟨(Nat.le_of_ble_eq_true rfl), (Nat.le_of_ble_eq_true rfl)⟩ dJ5_append_3fe6f_7 (fun v9 ws9 h8 => ?_)
  obtain ⟨rfl, v1, f1, hf1, hw9⟩ := h8
  subst ws9
  dsimp only [mPush]
  have hm1 : n + 1 ≤ (if n + 1 ≤ m then m else 2 * m + 2) := by split <;> omega
  generalize em : (if n + 1 ≤ m then m else 2 * m + 2) = m1 at hm1 ⊢
  refine r_aload_n hX dJ5_append_3fe6f_10 rfl rfl (r_callU hX mGT_h (c_isLatin1 _ _ 0 b _ _ _ rfl).ofg ju_J5_83 0 rfl (show vwCl[1]? = _ from rfl) rfl rfl (Nat.le_of_ble_eq_true rfl) ⟨(Nat.le_of_ble_eq_true rfl), (Nat.le_of_ble_eq_true rfl)⟩ ⟨(Nat.le_of_ble_eq_true rfl), (Nat.le_of_ble_eq_true rfl)⟩ dJ5_append_3fe6f_11 (fun v9 ws9 h8 => ?_))
  obtain ⟨rfl, hw9⟩ := h8
  subst ws9
  dsimp only [mPush]
  refine r_if_eq (tgt := 45) hX dJ5_append_3fe6f_14 (by decide) (fun c9 => absurd c9 (by decide)) (fun _ => ?_)
  refine r_iload_n hX dJ5_append_3fe6f_17 rfl rfl (r_callS hX (c_canEncode _ _ c hc) js_J5_191 rfl rfl (Nat.le_of_ble_eq_true rfl) ⟨(Nat.le_of_ble_eq_true rfl), (Nat.le_of_ble_eq_true rfl)⟩ ⟨(Nat.le_of_ble_eq_true rfl), (Nat.le_of_ble_eq_true rfl)⟩ dJ5_append_3fe6f_18 (fun _ _ z => False.elim z) (fun v9 ws9 h9 => ?_))
  obtain ⟨rfl, hw9⟩ := h9
  subst ws9
  dsimp only [mPush]
  refine r_if_eq (tgt := 45) hX dJ5_append_3fe6f_21 (by decide) (fun c9 => absurd c9 (by decide)) (fun _ => ?_)
  refine r_aload_n hX dJ5_append_3fe6f_24 rfl rfl (r_get hX jf_J5_15 0 rfl rfl dJ5_append_3fe6f_25 (r_aload_n hX dJ5_append_3fe6f_28 rfl rfl (r_dup hX dJ5_append_3fe6f_29 rfl (r_get hX jf_J5_79 0 rfl rfl dJ5_append_3fe6f_30 (r_dupx1 hX dJ5_append_3fe6f_33 rfl rfl (r_iconst (v := 1) hX dJ5_append_3fe6f_34 (by decide) (r_iadd hX dJ5_append_3fe6f_35 ?_)))))))
  rw [nI_1]
  refine r_put hX jf_J5_79 0 rfl rfl rfl rfl (Nat.le_of_ble_eq_true rfl) dJ5_append_3fe6f_36 (r_iload_n hX dJ5_append_3fe6f_39 rfl rfl (r_i2b hX dJ5_append_3fe6f_40 (r_bast hX 1 3 rfl rfl (vp_in_nI (n := n) (N := m1) (by omega) (by split at em <;> omega)) dJ5_append_3fe6f_41 (r_goto (tgt := 75) hX dJ5_append_3fe6f_42 (by decide) (r_aload_n hX dJ5_append_3fe6f_75 rfl rfl ?_)))))
  exact r_aret hX hE dJ5_append_3fe6f_76 (Or.inl ⟨_, rfl⟩) (Or.inr ⟨_, rfl⟩) (Nat.le_of_ble_eq_true rfl) (Nat.le_of_ble_eq_true rfl) ⟨rfl, v1, _, sb_fitU hf1 (pk_fb _), by rw [em]; rfl⟩
set_option maxHeartbeats 1000000 in
theorem c_sbAppendC (cs : ClassId × ClassId × ClassId) (cB : ClassId) (b v : Nat) (ml : Int32) (n m c : Nat) (f : Nat → Int32) (rest : va_W) (hf : sb_Fit f) (hq : n + 1 ≤ m ∨ (n ≤ m ∧ m ≤ 31)) (hm : m ≤ 64) (hc : c < 256) : mCt (mTb4 cs cB) yJ4_append_cf468 cJ4_append_cf468 2 (some (.object "java/lang/StringBuilder")) ⟨5, 1, 64, 200⟩ [.ref b, .int (nI c)] (mSb b v ml n cB m f rest) (fun v9 ws' => v9 = some (.ref b) ∧ ∃ (v' : Nat) (f' : Nat → Int32), sb_Fit f' ∧ ws' = mSb b v' ml (n + 1) cB (if n + 1 ≤ m then m else 2 * m + 2) f' rest) mNo := by
  refine mCt.of (by decide +kernel) (Nat.le_of_ble_eq_true rfl) (fun X hX hE => ?_)
  replace hX : mOK X RJ4 cJ4_append_cf468 2 ⟨5, 1, 64, 200⟩ [] (mTb4 cs cB) := hX
  refine r_aload_n hX dJ4_append_cf468_0 rfl rfl (r_iload_n hX dJ4_append_cf468_1 rfl rfl (r_callSU hX mGT_h (c_asbAppendC cs cB b v ml n m c f rest hf hq hm hc).ofg jsu_J4_50 0 rfl (show vwCl[1]? = _ from rfl) rfl rfl (Nat.le_of_ble_eq_true rfl) ⟨(Nat.le_of_ble_eq_true rfl), (Nat.le_of_ble_eq_true rfl)⟩ ⟨(Nat.le_of_ble_eq_true rfl), (Nat.le_of_ble_eq_true rfl)⟩ dJ4_append_cf468_2 (fun v9 ws9 h8 => ?_)))
  obtain ⟨rfl, v1, f1, hf1, hw9⟩ := h8
  subst ws9
  dsimp only [mPush]
  refine r_pop hX dJ4_append_cf468_5 rfl (r_aload_n hX dJ4_append_cf468_6 rfl rfl ?_)
  exact r_aret hX hE dJ4_append_cf468_7 (Or.inl ⟨_, rfl⟩) (Or.inr ⟨_, rfl⟩) (Nat.le_of_ble_eq_true rfl) (Nat.le_of_ble_eq_true rfl) ⟨rfl, v1, f1, hf1, rfl⟩
set_option maxHeartbeats 1000000 in
theorem c_getValue (tys : List (ClassId × FieldType)) (ws : va_W) (q b v : Nat) (x1 x2 x3 : Value) (he : ws[q]? = some (b, .inr (1, [.ref v, x1, x2, x3]))) : mCt tys yJ5_getValue_6d5f1 cJ5_getValue_6d5f1 1 (some (.array .byte)) ⟨0, 0, 0, 0⟩ [.ref b] ws (fun v9 ws' => v9 = some (.ref v) ∧ ws' = ws) mNo := by
  refine mCt.of (by decide +kernel) (Nat.le_of_ble_eq_true rfl) (fun X hX hE => ?_)
  replace hX : mOK X RJ5 cJ5_getValue_6d5f1 1 ⟨0, 0, 0, 0⟩ [] tys := hX
  refine r_aload_n hX dJ5_getValue_6d5f1_0 rfl rfl (r_get hX jf_J5_15 q he rfl dJ5_getValue_6d5f1_1 ?_)
  exact r_aret hX hE dJ5_getValue_6d5f1_4 (Or.inr ⟨_, rfl⟩) (Or.inr ⟨_, rfl⟩) (Nat.le_of_ble_eq_true rfl) (Nat.le_of_ble_eq_true rfl) ⟨rfl, rfl⟩
set_option maxHeartbeats 1000000 in
theorem c_asbLength (tys : List (ClassId × FieldType)) (ws : va_W) (q b : Nat) (z : Int32) (x0 x1 x2 : Value) (he : ws[q]? = some (b, .inr (1, [x0, x1, x2, .int z]))) : mCt tys yJ5_length_8abf5 cJ5_length_8abf5 1 (some .int) ⟨0, 0, 0, 0⟩ [.ref b] ws (fun v9 ws' => v9 = some (.int z) ∧ ws' = ws) mNo := by
  refine mCt.of (by decide +kernel) (Nat.le_of_ble_eq_true rfl) (fun X hX hE => ?_)
  replace hX : mOK X RJ5 cJ5_length_8abf5 1 ⟨0, 0, 0, 0⟩ [] tys := hX
  refine r_aload_n hX dJ5_length_8abf5_0 rfl rfl (r_get hX jf_J5_79 q he rfl dJ5_length_8abf5_1 ?_)
  exact r_iret hX hE dJ5_length_8abf5_4 (Nat.le_of_ble_eq_true rfl) (Nat.le_of_ble_eq_true rfl) ⟨rfl, rfl⟩
set_option maxHeartbeats 1000000 in
theorem c_sbLength (tys : List (ClassId × FieldType)) (ws : va_W) (q b : Nat) (z : Int32) (x0 x1 x2 : Value) (he : ws[q]? = some (b, .inr (1, [x0, x1, x2, .int z]))) : mCt tys yJ4_length_8abf5 cJ4_length_8abf5 1 (some .int) ⟨1, 0, 0, 20⟩ [.ref b] ws (fun v9 ws' => v9 = some (.int z) ∧ ws' = ws) mNo := by
  refine mCt.of (by decide +kernel) (Nat.le_of_ble_eq_true rfl) (fun X hX hE => ?_)
  replace hX : mOK X RJ4 cJ4_length_8abf5 1 ⟨1, 0, 0, 20⟩ [] tys := hX
  refine r_aload_n hX dJ4_length_8abf5_0 rfl rfl (r_callSU hX mGT_h (c_asbLength _ _ q b z _ _ _ he).ofg jsu_J4_343 q he (show vwCl[1]? = _ from rfl) rfl rfl (Nat.le_of_ble_eq_true rfl) ⟨(Nat.le_of_ble_eq_true rfl), (Nat.le_of_ble_eq_true rfl)⟩ ⟨(Nat.le_of_ble_eq_true rfl), (Nat.le_of_ble_eq_true rfl)⟩ dJ4_length_8abf5_1 (fun v9 ws9 h8 => ?_))
  obtain ⟨rfl, hw9⟩ := h8
  subst ws9
  dsimp only [mPush]
  exact r_iret hX hE dJ4_length_8abf5_4 (Nat.le_of_ble_eq_true rfl) (Nat.le_of_ble_eq_true rfl) ⟨rfl, rfl⟩
set_option maxHeartbeats 1000000 in
theorem c_checkLength (tys : List (ClassId × FieldType)) (ws : va_W) (n : Nat) (hn : n < 1000) : mCt tys yJ7_checkLength_df160 cJ7_checkLength_df160 2 none ⟨0, 0, 0, 0⟩ [.int 0, .int (nI n)] ws (fun v9 ws' => v9 = none ∧ ws' = ws) mNo := by
  refine mCt.of (by decide +kernel) (Nat.le_of_ble_eq_true rfl) (fun X hX hE => ?_)
  replace hX : mOK X RJ7 cJ7_checkLength_df160 2 ⟨0, 0, 0, 0⟩ [] tys := hX
  refine r_iload_n hX dJ7_checkLength_df160_0 rfl rfl (r_iload_n hX dJ7_checkLength_df160_1 rfl rfl (r_icmp_ge (tgt := 37) hX dJ7_checkLength_df160_2 (by decide) (fun _ => ?_) (fun c9 => absurd (nI_pos' (n := n) (by omega)) c9)))
  exact r_vret hX hE dJ7_checkLength_df160_37 (Nat.le_of_ble_eq_true rfl) (Nat.le_of_ble_eq_true rfl) ⟨rfl, rfl⟩
theorem mmin2 {a b : Nat} (h : a ≤ b) (hb : b < 2 ^ 30) : (if nI a < nI b then nI a else nI b) = nI a := by
  by_cases e : a < b
  · exact if_pos (nI_lt e (by omega))
  · have e2 : a = b := by omega
    subst e2
    exact if_neg (nI_nlt (Nat.le_refl a) (by omega))
set_option maxHeartbeats 1000000 in
theorem c_copyOfRangeByte (cs : ClassId × ClassId × ClassId) (cB : ClassId) (ws : va_W) (q0 v m L : Nat) (f : Nat → Int32) (he : ws[q0]? = some (v, .inl (cB, m, .inl f))) (hf : sb_Fit f) (h1 : L ≤ m) (h2 : m ≤ 64) : mCt (mTb4 cs cB) yJ7_copyOfRangeByte_39247 cJ7_copyOfRangeByte_39247 5 (some (.array .byte)) ⟨1, 1, 64, 110⟩ [.ref v, .int 0, .int (nI L)] ws (fun v9 ws' => ∃ (r : Nat) (g : Nat → Int32), sb_Fit g ∧ v9 = some (.ref r) ∧ ws' = (r, .inl (cB, L, .inl g)) :: ws) mNo := by
  refine mCt.of (by decide +kernel) (Nat.le_of_ble_eq_true rfl) (fun X hX hE => ?_)
  replace hX : mOK X RJ7 cJ7_copyOfRangeByte_39247 5 ⟨1, 1, 64, 110⟩ [] (mTb4 cs cB) := hX
  refine r_iload_n hX dJ7_copyOfRangeByte_39247_0 rfl rfl (r_iload_n hX dJ7_copyOfRangeByte_39247_1 rfl rfl (r_callS hX (c_checkLength _ _ L (by omega)) js_J7_343 rfl rfl (Nat.le_of_ble_eq_true rfl) ⟨(Nat.le_of_ble_eq_true rfl), (Nat.le_of_ble_eq_true rfl)⟩ ⟨(Nat.le_of_ble_eq_true rfl), (Nat.le_of_ble_eq_true rfl)⟩ dJ7_copyOfRangeByte_39247_2 (fun _ _ z => False.elim z) (fun v9 ws9 h9 => ?_)))
  obtain ⟨rfl, hw9⟩ := h9
  subst ws9
  dsimp only [mPush]
  refine r_iload_n hX dJ7_copyOfRangeByte_39247_5 rfl rfl (r_iload_n hX dJ7_copyOfRangeByte_39247_6 rfl rfl (r_isub hX dJ7_copyOfRangeByte_39247_7 ?_))
  rw [show nI L - 0 = nI L from Int32.sub_zero _]
  refine r_istore_n hX dJ7_copyOfRangeByte_39247_8 rfl (by decide) rfl (r_iload_n hX dJ7_copyOfRangeByte_39247_9 rfl rfl (r_newB hX 3 rfl (by omega) dJ7_copyOfRangeByte_39247_10 (Nat.le_of_ble_eq_true rfl) (show 0 + L ≤ 64 by omega) (fun r => ?_)))
  refine r_astore hX dJ7_copyOfRangeByte_39247_12 (by decide) rfl (r_aload_n hX dJ7_copyOfRangeByte_39247_14 rfl rfl (r_iload_n hX dJ7_copyOfRangeByte_39247_15 rfl rfl (r_aload hX dJ7_copyOfRangeByte_39247_16 rfl (r_iconst (v := 0) hX dJ7_copyOfRangeByte_39247_18 (by decide) (r_aload_n hX dJ7_copyOfRangeByte_39247_19 rfl rfl (r_alen (v := nI m) hX (q0 + 1) 3 he rfl rfl dJ7_copyOfRangeByte_39247_20 (r_iload_n hX dJ7_copyOfRangeByte_39247_21 rfl rfl ?_)))))))
  refine r_isub hX dJ7_copyOfRangeByte_39247_22 ?_
  rw [show nI m - 0 = nI m from Int32.sub_zero _]
  refine r_iload_n hX dJ7_copyOfRangeByte_39247_23 rfl rfl (r_mmin hX jl_J7_304 (Nat.le_of_ble_eq_true rfl) (Nat.le_of_ble_eq_true rfl) (Nat.le_of_ble_eq_true rfl) (show 0 + L ≤ 64 by omega) dJ7_copyOfRangeByte_39247_24 ?_)
  rw [show (if nI L < nI m then nI L else nI m) = nI L from mmin2 h1 (by omega)]
  refine r_copyb hX jl_J7_150 (q0 + 1) 0 3 3 he rfl rfl rfl (by decide) (by decide) (nI_pos (by omega)) (by rw [nI_clamp (by omega)]; show 0 + L ≤ m; omega) (by rw [nI_clamp (by omega)]; show 0 + L ≤ L; omega) hf (Nat.le_of_ble_eq_true rfl) (Nat.le_of_ble_eq_true rfl) dJ7_copyOfRangeByte_39247_27 (r_aload hX dJ7_copyOfRangeByte_39247_30 rfl ?_)
  exact r_aret hX hE dJ7_copyOfRangeByte_39247_32 (Or.inr ⟨_, rfl⟩) (Or.inr ⟨_, rfl⟩) (Nat.le_of_ble_eq_true rfl) (show 0 + L ≤ 64 by omega) ⟨r, _, sb_fitC hf sb_fit0, rfl, rfl⟩
set_option maxHeartbeats 1000000 in
theorem c_copyOfRange (cs : ClassId × ClassId × ClassId) (cB : ClassId) (ws : va_W) (q0 v m L : Nat) (f : Nat → Int32) (he : ws[q0]? = some (v, .inl (cB, m, .inl f))) (hf : sb_Fit f) (h1 : L ≤ m) (h2 : m ≤ 64) : mCt (mTb4 cs cB) yJ7_copyOfRange_39247 cJ7_copyOfRange_39247 3 (some (.array .byte)) ⟨2, 1, 64, 140⟩ [.ref v, .int 0, .int (nI L)] ws (fun v9 ws' => ∃ (r : Nat) (g : Nat → Int32), sb_Fit g ∧ v9 = some (.ref r) ∧ ws' = (r, .inl (cB, L, .inl g)) :: ws) mNo := by
  refine mCt.of (by decide +kernel) (Nat.le_of_ble_eq_true rfl) (fun X hX hE => ?_)
  replace hX : mOK X RJ7 cJ7_copyOfRange_39247 3 ⟨2, 1, 64, 140⟩ [] (mTb4 cs cB) := hX
  refine r_iload_n hX dJ7_copyOfRange_39247_0 rfl rfl (r_if_ne (tgt := 10) hX dJ7_copyOfRange_39247_1 (by decide) (fun c9 => absurd rfl c9) (fun _ => ?_))
  refine r_iload_n hX dJ7_copyOfRange_39247_4 rfl rfl (r_aload_n hX dJ7_copyOfRange_39247_5 rfl rfl (r_alen (v := nI m) hX q0 3 he rfl rfl dJ7_copyOfRange_39247_6 (r_icmp_eq (tgt := 17) hX dJ7_copyOfRange_39247_7 (by decide) (fun c9 => ?_) (fun c9 => ?_))))
  · have e9 : L = m := (nI_eq (by omega) (by omega)).mp c9
    subst e9
    refine r_aload_n hX dJ7_copyOfRange_39247_17 rfl rfl (r_clone hX jl_J7_310 q0 3 he rfl hf (Nat.le_of_ble_eq_true rfl) (Nat.le_of_ble_eq_true rfl) (Nat.le_of_ble_eq_true rfl) (show 0 + L ≤ 64 by omega) dJ7_copyOfRange_39247_18 (fun r => ?_))
    refine r_castB hX jk_J7_311 0 3 rfl rfl dJ7_copyOfRange_39247_21 ?_
    exact r_aret hX hE dJ7_copyOfRange_39247_24 (Or.inr ⟨_, rfl⟩) (Or.inr ⟨_, rfl⟩) (Nat.le_of_ble_eq_true rfl) (show 0 + L ≤ 64 by omega) ⟨r, f, hf, rfl, rfl⟩
  refine r_aload_n hX dJ7_copyOfRange_39247_10 rfl rfl (r_iload_n hX dJ7_copyOfRange_39247_11 rfl rfl (r_iload_n hX dJ7_copyOfRange_39247_12 rfl rfl (r_callS hX (c_copyOfRangeByte cs cB ws q0 v m L f he hf h1 h2) js_J7_339 rfl rfl (Nat.le_of_ble_eq_true rfl) ⟨(Nat.le_of_ble_eq_true rfl), (Nat.le_of_ble_eq_true rfl)⟩ ⟨(Nat.le_of_ble_eq_true rfl), (Nat.le_of_ble_eq_true rfl)⟩ dJ7_copyOfRange_39247_13 (fun _ _ z => False.elim z) (fun v9 ws9 h8 => ?_))))
  obtain ⟨r, g, hg9, rfl, hw9⟩ := h8
  subst ws9
  dsimp only [mPush]
  exact r_aret hX hE dJ7_copyOfRange_39247_16 (Or.inr ⟨_, rfl⟩) (Or.inr ⟨_, rfl⟩) (Nat.le_of_ble_eq_true rfl) (Nat.le_of_ble_eq_true rfl) ⟨r, g, hg9, rfl, rfl⟩
end
-- 37 jdk
section
/-! Text methods of the JDK, their contracts. (Rows by a program of this repository.) -/
theorem mrev : ∀ n, n < 65 → 1 ≤ n → (nI (n - 1) - 1) >>> ((1 : Int32) &&& 31) = nI (n / 2) - 1 := by decide +kernel
theorem mdec (j : Nat) : nI j + Int32.ofInt (-1) = nI j - 1 := by
  rw [Int32.sub_eq_add_neg]
  rfl
theorem msuc1 (j : Nat) : nI (j + 1) - 1 = nI j := pk_sub (a := j + 1) (b := 1) (by omega)
set_option maxHeartbeats 1000000 in
theorem c_asbReverse (cs : ClassId × ClassId × ClassId) (cB : ClassId) (b v : Nat) (ml : Int32) (n m : Nat) (f : Nat → Int32) (rest : va_W) (hf : sb_Fit f) (h1 : 1 ≤ n) (h2 : n ≤ m) (h3 : m ≤ 64) : mCt (mTb4 cs cB) yJ5_reverse_278bc cJ5_reverse_278bc 7 (some (.object "java/lang/AbstractStringBuilder")) ⟨1, 0, 0, 40⟩ [.ref b] (mSb b v ml n cB m f rest) (fun v9 ws' => v9 = some (.ref b) ∧ ∃ f' : Nat → Int32, sb_Fit f' ∧ ws' = mSb b v ml n cB m f' rest) mNo := by
  refine mCt.of (by decide +kernel) (Nat.le_of_ble_eq_true rfl) (fun X hX hE => ?_)
  replace hX : mOK X RJ5 cJ5_reverse_278bc 7 ⟨1, 0, 0, 40⟩ [] (mTb4 cs cB) := hX
  refine r_aload_n hX dJ5_reverse_278bc_0 rfl rfl (r_get hX jf_J5_15 0 rfl rfl dJ5_reverse_278bc_1 (r_astore_n hX dJ5_reverse_278bc_4 rfl (by decide) rfl (r_aload_n hX dJ5_reverse_278bc_5 rfl rfl (r_get hX jf_J5_79 0 rfl rfl dJ5_reverse_278bc_6 (r_istore_n hX dJ5_reverse_278bc_9 rfl (by decide) rfl (r_iload_n hX dJ5_reverse_278bc_10 rfl rfl (r_iconst (v := 1) hX dJ5_reverse_278bc_11 (by decide) ?_)))))))
  refine r_isub hX dJ5_reverse_278bc_12 ?_
  rw [show nI n - 1 = nI (n - 1) from pk_sub (b := 1) h1]
  refine r_istore_n hX dJ5_reverse_278bc_13 rfl (by decide) rfl (r_aload_n hX dJ5_reverse_278bc_14 rfl rfl (r_callU hX mGT_h (c_isLatin1 _ _ 0 b _ _ _ rfl).ofg ju_J5_83 0 rfl (show vwCl[1]? = _ from rfl) rfl rfl (Nat.le_of_ble_eq_true rfl) ⟨(Nat.le_of_ble_eq_true rfl), (Nat.le_of_ble_eq_true rfl)⟩ ⟨(Nat.le_of_ble_eq_true rfl), (Nat.le_of_ble_eq_true rfl)⟩ dJ5_reverse_278bc_15 (fun v9 ws9 h8 => ?_)))
  obtain ⟨rfl, hw9⟩ := h8
  subst ws9
  dsimp only [mPush]
  refine r_if_eq (tgt := 68) hX dJ5_reverse_278bc_18 (by decide) (fun c9 => absurd c9 (by decide)) (fun _ => ?_)
  refine r_iload_n hX dJ5_reverse_278bc_21 rfl rfl (r_iconst (v := 1) hX dJ5_reverse_278bc_22 (by decide) (r_isub hX dJ5_reverse_278bc_23 (r_iconst (v := 1) hX dJ5_reverse_278bc_24 (by decide) (r_ishr1 hX dJ5_reverse_278bc_25 ?_))))
  rw [mrev n (by omega) h1]
  refine r_istore hX dJ5_reverse_278bc_26 (by decide) rfl ?_
  have L : ∀ (j : Nat) (f : Nat → Int32), j ≤ n / 2 → sb_Fit f → mV X 28 [(0, some (.ref b)), (1, some (.ref v)), (2, some (.int (nI n))), (3, some (.int (nI (n - 1)))), (4, some (.int (nI j - 1)))] [] (mSb b v ml n cB m f rest) 0 0 := by
    intro j
    induction j with
    | zero =>
      intro f hj hf
      refine r_iload hX dJ5_reverse_278bc_28 rfl (r_if_lt (tgt := 65) hX dJ5_reverse_278bc_30 (by decide) (fun _ => ?_) (fun c9 => absurd (by decide) c9))
      refine r_goto (tgt := 73) hX dJ5_reverse_278bc_65 (by decide) (r_aload_n hX dJ5_reverse_278bc_73 rfl rfl ?_)
      exact r_aret hX hE dJ5_reverse_278bc_74 (Or.inl ⟨_, rfl⟩) (Or.inr ⟨_, rfl⟩) (Nat.le_of_ble_eq_true rfl) (Nat.le_of_ble_eq_true rfl) ⟨rfl, f, hf, rfl⟩
    | succ j ih =>
      intro f hj hf
      rw [msuc1]
      refine r_iload hX dJ5_reverse_278bc_28 rfl (r_if_lt (tgt := 65) hX dJ5_reverse_278bc_30 (by decide) (fun c9 => absurd c9 (nI_pos (by omega))) (fun _ => ?_))
      refine r_iload_n hX dJ5_reverse_278bc_33 rfl rfl (r_iload hX dJ5_reverse_278bc_34 rfl (r_isub hX dJ5_reverse_278bc_36 ?_))
      rw [pk_sub (show j ≤ n - 1 by omega)]
      refine r_istore hX dJ5_reverse_278bc_37 (by decide) rfl (r_aload_n hX dJ5_reverse_278bc_39 rfl rfl (r_iload hX dJ5_reverse_278bc_40 rfl (r_bald hX 1 3 rfl rfl (vp_in_nI (n := j) (N := m) (by omega) (by omega)) dJ5_reverse_278bc_42 (r_istore hX dJ5_reverse_278bc_43 (by decide) rfl (r_aload_n hX dJ5_reverse_278bc_45 rfl rfl (r_iload hX dJ5_reverse_278bc_46 rfl (r_aload_n hX dJ5_reverse_278bc_48 rfl rfl ?_)))))))
      refine r_iload hX dJ5_reverse_278bc_49 rfl (r_bald hX 1 3 rfl rfl (vp_in_nI (n := (n - 1 - j)) (N := m) (by omega) (by omega)) dJ5_reverse_278bc_51 (r_bast hX 1 3 rfl rfl (vp_in_nI (n := j) (N := m) (by omega) (by omega)) dJ5_reverse_278bc_52 (r_aload_n hX dJ5_reverse_278bc_53 rfl rfl (r_iload hX dJ5_reverse_278bc_54 rfl (r_iload hX dJ5_reverse_278bc_56 rfl (r_bast hX 1 3 rfl rfl (vp_in_nI (n := (n - 1 - j)) (N := m) (by omega) (by omega)) dJ5_reverse_278bc_58 (r_iinc hX dJ5_reverse_278bc_59 rfl (by decide) rfl ?_)))))))
      refine r_goto (tgt := 28) hX dJ5_reverse_278bc_62 (by decide) ?_
      exact r_loc (k' := 0) (n' := 0) (by exact ⟨rfl, rfl, rfl, rfl, congrArg (fun z => some (Value.int z)) (mdec j), trivial⟩) (Nat.le_of_ble_eq_true rfl) (Nat.le_of_ble_eq_true rfl) (ih _ (by omega) (sb_fitU (sb_fitU hf (pk_fb _)) (pk_fb _)))
  exact r_loc (k' := 0) (n' := 0) (by exact ⟨rfl, rfl, rfl, rfl, rfl, trivial⟩) (Nat.le_of_ble_eq_true rfl) (Nat.le_of_ble_eq_true rfl) (L (n / 2) f (Nat.le_refl _) hf)
set_option maxHeartbeats 1000000 in
theorem c_sbReverse (cs : ClassId × ClassId × ClassId) (cB : ClassId) (b v : Nat) (ml : Int32) (n m : Nat) (f : Nat → Int32) (rest : va_W) (hf : sb_Fit f) (h1 : 1 ≤ n) (h2 : n ≤ m) (h3 : m ≤ 64) : mCt (mTb4 cs cB) yJ4_reverse_43fcb cJ4_reverse_43fcb 1 (some (.object "java/lang/StringBuilder")) ⟨2, 0, 0, 70⟩ [.ref b] (mSb b v ml n cB m f rest) (fun v9 ws' => v9 = some (.ref b) ∧ ∃ f' : Nat → Int32, sb_Fit f' ∧ ws' = mSb b v ml n cB m f' rest) mNo := by
  refine mCt.of (by decide +kernel) (Nat.le_of_ble_eq_true rfl) (fun X hX hE => ?_)
  replace hX : mOK X RJ4 cJ4_reverse_43fcb 1 ⟨2, 0, 0, 70⟩ [] (mTb4 cs cB) := hX
  refine r_aload_n hX dJ4_reverse_43fcb_0 rfl rfl (r_callSU hX mGT_h (c_asbReverse cs cB b v ml n m f rest hf h1 h2 h3).ofg jsu_J4_127 0 rfl (show vwCl[1]? = _ from rfl) rfl rfl (Nat.le_of_ble_eq_true rfl) ⟨(Nat.le_of_ble_eq_true rfl), (Nat.le_of_ble_eq_true rfl)⟩ ⟨(Nat.le_of_ble_eq_true rfl), (Nat.le_of_ble_eq_true rfl)⟩ dJ4_reverse_43fcb_1 (fun v9 ws9 h8 => ?_))
  obtain ⟨rfl, f1, hf1, hw9⟩ := h8
  subst ws9
  dsimp only [mPush]
  refine r_pop hX dJ4_reverse_43fcb_4 rfl (r_aload_n hX dJ4_reverse_43fcb_5 rfl rfl ?_)
  exact r_aret hX hE dJ4_reverse_43fcb_6 (Or.inl ⟨_, rfl⟩) (Or.inr ⟨_, rfl⟩) (Nat.le_of_ble_eq_true rfl) (Nat.le_of_ble_eq_true rfl) ⟨rfl, f1, hf1, rfl⟩
set_option maxHeartbeats 1000000 in
theorem c_strInit2 (cs : ClassId × ClassId × ClassId) (cB : ClassId) (s b v : Nat) (ml : Int32) (n m : Nat) (f : Nat → Int32) (rest : va_W) (hf : sb_Fit f) (h2 : n ≤ m) (h3 : m ≤ 64) : mCt (mTb4 cs cB) yJ0_init_db425 cJ0_init_db425 5 none ⟨3, 1, 64, 180⟩ [.ref s, .ref b, .null] ((s, .inr (0, [.null, .int 0, .int 0, .int 0])) :: mSb b v ml n cB m f rest) (fun v9 ws' => v9 = none ∧ ∃ (r : Nat) (g : Nat → Int32), sb_Fit g ∧ ws' = (r, .inl (cB, n, .inl g)) :: (s, .inr (0, [.ref r, .int 0, .int 0, .int 0])) :: mSb b v ml n cB m f rest) mNo := by
  refine mCt.ofI (by decide +kernel) rfl (Nat.le_of_ble_eq_true rfl) (fun X hX hi hE => ?_)
  replace hX : mOK X RJ0 cJ0_init_db425 5 ⟨3, 1, 64, 180⟩ [] (mTb4 cs cB) := hX
  refine r_aload_n hX dJ0_init_db425_0 rfl rfl (r_objInit hX job_J0 (Nat.le_of_ble_eq_true rfl) (Nat.le_of_ble_eq_true rfl) dJ0_init_db425_1 (r_aload_n hX dJ0_init_db425_4 rfl rfl (r_callU hX mGT_h (c_getValue _ _ 1 b v _ _ _ rfl).ofg ju_J0_552 1 rfl (show vwCl[1]? = _ from rfl) rfl rfl (Nat.le_of_ble_eq_true rfl) ⟨(Nat.le_of_ble_eq_true rfl), (Nat.le_of_ble_eq_true rfl)⟩ ⟨(Nat.le_of_ble_eq_true rfl), (Nat.le_of_ble_eq_true rfl)⟩ dJ0_init_db425_5 (fun v9 ws9 h8 => ?_))))
  obtain ⟨rfl, hw9⟩ := h8
  subst ws9
  dsimp only [mPush]
  refine r_astore_n hX dJ0_init_db425_8 rfl (by decide) rfl (r_aload_n hX dJ0_init_db425_9 rfl rfl (r_callU hX mGT_h (c_sbLength _ _ 1 b (nI n) _ _ _ rfl).ofg ju_J0_549 1 rfl (show vwCl[1]? = _ from rfl) rfl rfl (Nat.le_of_ble_eq_true rfl) ⟨(Nat.le_of_ble_eq_true rfl), (Nat.le_of_ble_eq_true rfl)⟩ ⟨(Nat.le_of_ble_eq_true rfl), (Nat.le_of_ble_eq_true rfl)⟩ dJ0_init_db425_10 (fun v9 ws9 h8 => ?_)))
  obtain ⟨rfl, hw9⟩ := h8
  subst ws9
  dsimp only [mPush]
  refine r_istore hX dJ0_init_db425_13 (by decide) rfl (r_aload_n hX dJ0_init_db425_15 rfl rfl (r_callU hX mGT_h (c_isLatin1 _ _ 1 b _ _ _ rfl).ofg ju_J0_1047 1 rfl (show vwCl[1]? = _ from rfl) rfl rfl (Nat.le_of_ble_eq_true rfl) ⟨(Nat.le_of_ble_eq_true rfl), (Nat.le_of_ble_eq_true rfl)⟩ ⟨(Nat.le_of_ble_eq_true rfl), (Nat.le_of_ble_eq_true rfl)⟩ dJ0_init_db425_16 (fun v9 ws9 h8 => ?_)))
  obtain ⟨rfl, hw9⟩ := h8
  subst ws9
  dsimp only [mPush]
  refine r_if_eq (tgt := 41) hX dJ0_init_db425_19 (by decide) (fun c9 => absurd c9 (by decide)) (fun _ => ?_)
  refine r_aload_n hX dJ0_init_db425_22 rfl rfl (r_iconst (v := 0) hX dJ0_init_db425_23 (by decide) (r_putF (y := yJ0_init_db425) hX hi jf_J0_15 0 rfl rfl rfl rfl rfl (Nat.le_of_ble_eq_true rfl) dJ0_init_db425_24 (r_aload_n hX dJ0_init_db425_27 rfl rfl (r_aload_n hX dJ0_init_db425_28 rfl rfl (r_iconst (v := 0) hX dJ0_init_db425_29 (by decide) (r_iload hX dJ0_init_db425_30 rfl (r_callS hX (c_copyOfRange cs cB _ 2 v m n f rfl hf h2 h3) js_J0_54 rfl rfl (Nat.le_of_ble_eq_true rfl) ⟨(Nat.le_of_ble_eq_true rfl), (Nat.le_of_ble_eq_true rfl)⟩ ⟨(Nat.le_of_ble_eq_true rfl), (Nat.le_of_ble_eq_true rfl)⟩ dJ0_init_db425_32 (fun _ _ z => False.elim z) (fun v9 ws9 h8 => ?_))))))))
  obtain ⟨r, g, hg9, rfl, hw9⟩ := h8
  subst ws9
  dsimp only [mPush]
  refine r_putF (y := yJ0_init_db425) hX hi jf_J0_9 1 rfl rfl rfl rfl rfl (Nat.le_of_ble_eq_true rfl) dJ0_init_db425_35 (r_goto (tgt := 97) hX dJ0_init_db425_38 (by decide) ?_)
  exact r_vret hX hE dJ0_init_db425_97 (Nat.le_of_ble_eq_true rfl) (Nat.le_of_ble_eq_true rfl) ⟨rfl, r, g, hg9, rfl⟩
set_option maxHeartbeats 1000000 in
theorem c_strInit1 (cs : ClassId × ClassId × ClassId) (cB : ClassId) (s b v : Nat) (ml : Int32) (n m : Nat) (f : Nat → Int32) (rest : va_W) (hf : sb_Fit f) (h2 : n ≤ m) (h3 : m ≤ 64) : mCt (mTb4 cs cB) yJ0_init_81219 cJ0_init_81219 2 none ⟨4, 1, 64, 210⟩ [.ref s, .ref b] ((s, .inr (0, [.null, .int 0, .int 0, .int 0])) :: mSb b v ml n cB m f rest) (fun v9 ws' => v9 = none ∧ ∃ (r : Nat) (g : Nat → Int32), sb_Fit g ∧ ws' = (r, .inl (cB, n, .inl g)) :: (s, .inr (0, [.ref r, .int 0, .int 0, .int 0])) :: mSb b v ml n cB m f rest) mNo := by
  refine mCt.ofI (by decide +kernel) rfl (Nat.le_of_ble_eq_true rfl) (fun X hX hi hE => ?_)
  replace hX : mOK X RJ0 cJ0_init_81219 2 ⟨4, 1, 64, 210⟩ [] (mTb4 cs cB) := hX
  refine r_aload_n hX dJ0_init_81219_0 rfl rfl (r_aload_n hX dJ0_init_81219_1 rfl rfl (r_null hX dJ0_init_81219_2 (r_callI hX (c_strInit2 cs cB s b v ml n m f rest hf h2 h3) ji_J0_489 (as := [.ref b, .null]) rfl rfl (Nat.le_of_ble_eq_true rfl) ⟨(Nat.le_of_ble_eq_true rfl), (Nat.le_of_ble_eq_true rfl)⟩ ⟨(Nat.le_of_ble_eq_true rfl), (Nat.le_of_ble_eq_true rfl)⟩ dJ0_init_81219_3 (fun v9 ws9 h8 => ?_))))
  obtain ⟨rfl, r, g, hg9, hw9⟩ := h8
  subst ws9
  dsimp only [mPush]
  exact r_vret hX hE dJ0_init_81219_6 (Nat.le_of_ble_eq_true rfl) (Nat.le_of_ble_eq_true rfl) ⟨rfl, r, g, hg9, rfl⟩
theorem mJ0z : ∀ j, j < 4 → defaultValue (tyJ0 j) = vp_V [.null, .int 0, .int 0, .int 0] j := by
  intro j hj
  have h9 : j = 0 ∨ j = 1 ∨ j = 2 ∨ j = 3 := by omega
  rcases h9 with rfl | rfl | rfl | rfl <;> rfl
theorem mJ4z : ∀ j, j < 4 → defaultValue (tyJ4 j) = vp_V [.null, .int 0, .int 0, .int 0] j := by
  intro j hj
  have h9 : j = 0 ∨ j = 1 ∨ j = 2 ∨ j = 3 := by omega
  rcases h9 with rfl | rfl | rfl | rfl <;> rfl
set_option maxHeartbeats 1000000 in
theorem c_toString (cs : ClassId × ClassId × ClassId) (cB : ClassId) (b v : Nat) (ml : Int32) (n m : Nat) (f : Nat → Int32) (rest : va_W) (hf : sb_Fit f) (h2 : n ≤ m) (h3 : m ≤ 64) : mCt (mTb4 cs cB) yJ4_toString_0e30d cJ4_toString_0e30d 1 (some (.object "java/lang/String")) ⟨5, 2, 68, 240⟩ [.ref b] (mSb b v ml n cB m f rest) (fun v9 ws' => (∃ s : Nat, v9 = some (.ref s)) ∧ ws' = rest) mNo := by
  refine mCt.of (by decide +kernel) (Nat.le_of_ble_eq_true rfl) (fun X hX hE => ?_)
  replace hX : mOK X RJ4 cJ4_toString_0e30d 1 ⟨5, 2, 68, 240⟩ [] (mTb4 cs cB) := hX
  refine r_new hX kinJ0 tyJ0_ok jk_J4_18 jn_J0 jt_J0 (show vwCl[0]? = _ from rfl) (fs := [.null, .int 0, .int 0, .int 0]) mJ0z (Nat.le_of_ble_eq_true rfl) (Nat.le_of_ble_eq_true rfl) dJ4_toString_0e30d_0 (fun s => ?_)
  refine r_dup hX dJ4_toString_0e30d_3 rfl (r_aload_n hX dJ4_toString_0e30d_4 rfl rfl (r_callI hX (c_strInit1 cs cB s b v ml n m f rest hf h2 h3) ji_J4_137 (as := [.ref b]) rfl rfl (Nat.le_of_ble_eq_true rfl) ⟨(Nat.le_of_ble_eq_true rfl), (Nat.le_of_ble_eq_true rfl)⟩ ⟨(Nat.le_of_ble_eq_true rfl), (Nat.le_of_ble_eq_true rfl)⟩ dJ4_toString_0e30d_5 (fun v9 ws9 h8 => ?_)))
  obtain ⟨rfl, r, g, hg9, hw9⟩ := h8
  subst ws9
  dsimp only [mPush]
  refine r_part (B := [(r, .inl (cB, n, .inl g)), (s, .inr (0, [.ref r, .int 0, .int 0, .int 0])), (b, .inr (1, [.ref v, .int 0, .int ml, .int (nI n)])), (v, .inl (cB, m, .inl f))]) (C := []) (pl := rest) [] rfl rfl ?_
  exact r_aret hX hE dJ4_toString_0e30d_8 (Or.inl ⟨_, rfl⟩) (Or.inr ⟨_, rfl⟩) (Nat.le_of_ble_eq_true rfl) (Nat.le_of_ble_eq_true rfl) ⟨⟨s, rfl⟩, rfl⟩
end
-- 38 jdk
section
/-! Text methods of the JDK, their contracts. (Rows by a program of this repository.) -/
set_option maxHeartbeats 1000000 in
theorem c_coder (tys : List (ClassId × FieldType)) (ws : va_W) (a : Nat) : mCg (mEm a) tys yJ0_coder_7d493 cJ0_coder_7d493 1 (some .byte) ⟨0, 0, 0, 0⟩ [.ref a] ws (fun v9 ws' => v9 = some (.int 0) ∧ ws' = ws) := by
  refine mCg.of (mEm_s a) (by decide +kernel) (Nat.le_of_ble_eq_true rfl) (fun X hX hg hE => ?_)
  replace hX : mOK X RJ0 cJ0_coder_7d493 1 ⟨0, 0, 0, 0⟩ [] tys := hX
  refine r_compact hX jfl_J0_38 dJ0_coder_7d493_0 (r_if_eq (tgt := 13) hX dJ0_coder_7d493_3 (by decide) (fun c9 => absurd c9 (by decide)) (fun _ => ?_))
  refine r_aload_n hX dJ0_coder_7d493_6 rfl rfl (r_emCoder hX hg jfl_J0_15 dJ0_coder_7d493_7 (r_goto (tgt := 14) hX dJ0_coder_7d493_10 (by decide) ?_))
  exact r_zret hX hE dJ0_coder_7d493_14 (by decide) (Nat.le_of_ble_eq_true rfl) (Nat.le_of_ble_eq_true rfl) ⟨rfl, rfl⟩
set_option maxHeartbeats 1000000 in
theorem c_strLength (tys : List (ClassId × FieldType)) (ws : va_W) (a : Nat) : mCg (mEm a) tys yJ0_length_8abf5 cJ0_length_8abf5 1 (some .int) ⟨1, 0, 0, 20⟩ [.ref a] ws (fun v9 ws' => v9 = some (.int 0) ∧ ws' = ws) := by
  refine mCg.of (mEm_s a) (by decide +kernel) (Nat.le_of_ble_eq_true rfl) (fun X hX hg hE => ?_)
  replace hX : mOK X RJ0 cJ0_length_8abf5 1 ⟨1, 0, 0, 20⟩ [] tys := hX
  refine r_aload_n hX dJ0_length_8abf5_0 rfl rfl (r_emValue hX hg jfl_J0_9 dJ0_length_8abf5_1 (fun v hv => ?_))
  refine r_emLen hX hv dJ0_length_8abf5_4 (r_aload_n hX dJ0_length_8abf5_5 rfl rfl (r_callVe hX hg rfl (c_coder _ _ a) jv_J0_335 (as := []) rfl rfl (Nat.le_of_ble_eq_true rfl) ⟨(Nat.le_of_ble_eq_true rfl), (Nat.le_of_ble_eq_true rfl)⟩ ⟨(Nat.le_of_ble_eq_true rfl), (Nat.le_of_ble_eq_true rfl)⟩ dJ0_length_8abf5_6 (fun v9 ws9 h8 => ?_)))
  obtain ⟨rfl, hw9⟩ := h8
  subst ws9
  dsimp only [mPush]
  refine r_ishr hX dJ0_length_8abf5_9 ?_
  exact r_iret hX hE dJ0_length_8abf5_10 (Nat.le_of_ble_eq_true rfl) (Nat.le_of_ble_eq_true rfl) ⟨rfl, rfl⟩
set_option maxHeartbeats 1000000 in
theorem c_inflateIf (cs : ClassId × ClassId × ClassId) (cB : ClassId) (a b v : Nat) (ml : Int32) (n m : Nat) (f : Nat → Int32) (rest : va_W) : mCg (mEm a) (mTb4 cs cB) yJ5_inflateIfNeededFor_a7421 cJ5_inflateIfNeededFor_a7421 2 none ⟨1, 0, 0, 20⟩ [.ref b, .ref a] (mSb b v ml n cB m f rest) (fun v9 ws' => v9 = none ∧ ws' = mSb b v ml n cB m f rest) := by
  refine mCg.of (mEm_s a) (by decide +kernel) (Nat.le_of_ble_eq_true rfl) (fun X hX hg hE => ?_)
  replace hX : mOK X RJ5 cJ5_inflateIfNeededFor_a7421 2 ⟨1, 0, 0, 20⟩ [] (mTb4 cs cB) := hX
  refine r_compact hX jfl_J5_18 dJ5_inflateIfNeededFor_a7421_0 (r_if_eq (tgt := 21) hX dJ5_inflateIfNeededFor_a7421_3 (by decide) (fun c9 => absurd c9 (by decide)) (fun _ => ?_))
  refine r_aload_n hX dJ5_inflateIfNeededFor_a7421_6 rfl rfl (r_get hX jf_J5_22 0 rfl rfl dJ5_inflateIfNeededFor_a7421_7 (r_aload_n hX dJ5_inflateIfNeededFor_a7421_10 rfl rfl (r_callVe hX hg rfl (c_coder _ _ a) jv_J5_40 (as := []) rfl rfl (Nat.le_of_ble_eq_true rfl) ⟨(Nat.le_of_ble_eq_true rfl), (Nat.le_of_ble_eq_true rfl)⟩ ⟨(Nat.le_of_ble_eq_true rfl), (Nat.le_of_ble_eq_true rfl)⟩ dJ5_inflateIfNeededFor_a7421_11 (fun v9 ws9 h8 => ?_))))
  obtain ⟨rfl, hw9⟩ := h8
  subst ws9
  dsimp only [mPush]
  refine r_icmp_eq (tgt := 21) hX dJ5_inflateIfNeededFor_a7421_14 (by decide) (fun _ => ?_) (fun c9 => absurd rfl c9)
  exact r_vret hX hE dJ5_inflateIfNeededFor_a7421_21 (Nat.le_of_ble_eq_true rfl) (Nat.le_of_ble_eq_true rfl) ⟨rfl, rfl⟩
set_option maxHeartbeats 1000000 in
theorem c_getBytes (cs : ClassId × ClassId × ClassId) (cB : ClassId) (a b v : Nat) (ml : Int32) (n m : Nat) (f : Nat → Int32) (rest : va_W) (h2 : n ≤ m) (h3 : m ≤ 64) : mCg (mEm a) (mTb4 cs cB) yJ0_getBytes_840e7 cJ0_getBytes_840e7 4 none ⟨1, 0, 0, 110⟩ [.ref a, .ref v, .int (nI n), .int 0] (mSb b v ml n cB m f rest) (fun v9 ws' => v9 = none ∧ ws' = mSb b v ml n cB m f rest) := by
  refine mCg.of (mEm_s a) (by decide +kernel) (Nat.le_of_ble_eq_true rfl) (fun X hX hg hE => ?_)
  replace hX : mOK X RJ0 cJ0_getBytes_840e7 4 ⟨1, 0, 0, 110⟩ [] (mTb4 cs cB) := hX
  refine r_aload_n hX dJ0_getBytes_840e7_0 rfl rfl (r_callVe hX hg rfl (c_coder _ _ a) jv_J0_335 (as := []) rfl rfl (Nat.le_of_ble_eq_true rfl) ⟨(Nat.le_of_ble_eq_true rfl), (Nat.le_of_ble_eq_true rfl)⟩ ⟨(Nat.le_of_ble_eq_true rfl), (Nat.le_of_ble_eq_true rfl)⟩ dJ0_getBytes_840e7_1 (fun v9 ws9 h8 => ?_))
  obtain ⟨rfl, hw9⟩ := h8
  subst ws9
  dsimp only [mPush]
  refine r_iload_n hX dJ0_getBytes_840e7_4 rfl rfl (r_icmp_ne (tgt := 28) hX dJ0_getBytes_840e7_5 (by decide) (fun c9 => absurd rfl c9) (fun _ => ?_))
  refine r_aload_n hX dJ0_getBytes_840e7_8 rfl rfl (r_emValue hX hg jfl_J0_9 dJ0_getBytes_840e7_9 (fun v1 hv1 => ?_))
  refine r_iconst (v := 0) hX dJ0_getBytes_840e7_12 (by decide) (r_aload_n hX dJ0_getBytes_840e7_13 rfl rfl (r_iload_n hX dJ0_getBytes_840e7_14 rfl rfl (r_iload_n hX dJ0_getBytes_840e7_15 rfl rfl (r_ishl hX dJ0_getBytes_840e7_16 (r_aload_n hX dJ0_getBytes_840e7_17 rfl rfl (r_emValue hX hg jfl_J0_9 dJ0_getBytes_840e7_18 (fun v2 hv2 => ?_)))))))
  refine r_emLen hX hv2 dJ0_getBytes_840e7_21 (r_emCopy hX hv1 jl_J0_212 1 3 rfl rfl (nI_pos (by omega)) (by rw [nI_clamp (by omega)]; exact h2) (Nat.le_of_ble_eq_true rfl) (Nat.le_of_ble_eq_true rfl) dJ0_getBytes_840e7_22 (r_goto (tgt := 43) hX dJ0_getBytes_840e7_25 (by decide) ?_))
  exact r_vret hX hE dJ0_getBytes_840e7_43 (Nat.le_of_ble_eq_true rfl) (Nat.le_of_ble_eq_true rfl) ⟨rfl, rfl⟩
set_option maxHeartbeats 1000000 in
theorem c_putStringAt (cs : ClassId × ClassId × ClassId) (cB : ClassId) (a b v : Nat) (ml : Int32) (n m : Nat) (f : Nat → Int32) (rest : va_W) (h2 : n ≤ m) (h3 : m ≤ 64) : mCg (mEm a) (mTb4 cs cB) yJ5_putStringAt_47b60 cJ5_putStringAt_47b60 3 none ⟨2, 0, 0, 140⟩ [.ref b, .int (nI n), .ref a] (mSb b v ml n cB m f rest) (fun v9 ws' => v9 = none ∧ ws' = mSb b v ml n cB m f rest) := by
  refine mCg.of (mEm_s a) (by decide +kernel) (Nat.le_of_ble_eq_true rfl) (fun X hX hg hE => ?_)
  replace hX : mOK X RJ5 cJ5_putStringAt_47b60 3 ⟨2, 0, 0, 140⟩ [] (mTb4 cs cB) := hX
  refine r_aload_n hX dJ5_putStringAt_47b60_0 rfl rfl (r_aload_n hX dJ5_putStringAt_47b60_1 rfl rfl (r_callU hX hg (c_inflateIf cs cB a b v ml n m f rest) ju_J5_397 (as := [.ref a]) 0 rfl (show vwCl[1]? = _ from rfl) rfl rfl (Nat.le_of_ble_eq_true rfl) ⟨(Nat.le_of_ble_eq_true rfl), (Nat.le_of_ble_eq_true rfl)⟩ ⟨(Nat.le_of_ble_eq_true rfl), (Nat.le_of_ble_eq_true rfl)⟩ dJ5_putStringAt_47b60_2 (fun v9 ws9 h8 => ?_)))
  obtain ⟨rfl, hw9⟩ := h8
  subst ws9
  dsimp only [mPush]
  refine r_aload_n hX dJ5_putStringAt_47b60_5 rfl rfl (r_aload_n hX dJ5_putStringAt_47b60_6 rfl rfl (r_get hX jf_J5_15 0 rfl rfl dJ5_putStringAt_47b60_7 (r_iload_n hX dJ5_putStringAt_47b60_10 rfl rfl (r_aload_n hX dJ5_putStringAt_47b60_11 rfl rfl (r_get hX jf_J5_22 0 rfl rfl dJ5_putStringAt_47b60_12 (r_callVe hX hg rfl (c_getBytes cs cB a b v ml n m f rest h2 h3) jv_J5_399 (as := [.ref v, .int (nI n), .int 0]) rfl rfl (Nat.le_of_ble_eq_true rfl) ⟨(Nat.le_of_ble_eq_true rfl), (Nat.le_of_ble_eq_true rfl)⟩ ⟨(Nat.le_of_ble_eq_true rfl), (Nat.le_of_ble_eq_true rfl)⟩ dJ5_putStringAt_47b60_15 (fun v9 ws9 h8 => ?_)))))))
  obtain ⟨rfl, hw9⟩ := h8
  subst ws9
  dsimp only [mPush]
  exact r_vret hX hE dJ5_putStringAt_47b60_18 (Nat.le_of_ble_eq_true rfl) (Nat.le_of_ble_eq_true rfl) ⟨rfl, rfl⟩
set_option maxHeartbeats 1000000 in
theorem c_asbAppendS (cs : ClassId × ClassId × ClassId) (cB : ClassId) (a b v : Nat) (ml : Int32) (n m : Nat) (f : Nat → Int32) (rest : va_W) (hf : sb_Fit f) (h2 : n ≤ m) (h3 : m ≤ 64) : mCg (mEm a) (mTb4 cs cB) yJ5_append_cf1ce cJ5_append_cf1ce 3 (some (.object "java/lang/AbstractStringBuilder")) ⟨4, 1, 64, 180⟩ [.ref b, .ref a] (mSb b v ml n cB m f rest) (fun v9 ws' => v9 = some (.ref b) ∧ ∃ (v' : Nat) (f' : Nat → Int32), sb_Fit f' ∧ ws' = mSb b v' ml n cB m f' rest) := by
  refine mCg.of (mEm_s a) (by decide +kernel) (Nat.le_of_ble_eq_true rfl) (fun X hX hg hE => ?_)
  replace hX : mOK X RJ5 cJ5_append_cf1ce 3 ⟨4, 1, 64, 180⟩ [] (mTb4 cs cB) := hX
  refine r_aload_n hX dJ5_append_cf1ce_0 rfl rfl (r_ifnonnull (tgt := 9) hX dJ5_append_cf1ce_1 (by decide) (r_aload_n hX dJ5_append_cf1ce_9 rfl rfl (r_callVe hX hg rfl (c_strLength _ _ a) jv_J5_32 (as := []) rfl rfl (Nat.le_of_ble_eq_true rfl) ⟨(Nat.le_of_ble_eq_true rfl), (Nat.le_of_ble_eq_true rfl)⟩ ⟨(Nat.le_of_ble_eq_true rfl), (Nat.le_of_ble_eq_true rfl)⟩ dJ5_append_cf1ce_10 (fun v9 ws9 h8 => ?_))))
  obtain ⟨rfl, hw9⟩ := h8
  subst ws9
  dsimp only [mPush]
  refine r_istore_n hX dJ5_append_cf1ce_13 rfl (by decide) rfl (r_aload_n hX dJ5_append_cf1ce_14 rfl rfl (r_aload_n hX dJ5_append_cf1ce_15 rfl rfl (r_get hX jf_J5_79 0 rfl rfl dJ5_append_cf1ce_16 (r_iload_n hX dJ5_append_cf1ce_19 rfl rfl (r_iadd hX dJ5_append_cf1ce_20 ?_)))))
  rw [show nI n + 0 = nI n from Int32.add_zero _]
  refine r_callU hX mGT_h (c_ensure cs cB b v ml n m n f rest hf (Or.inl h2) h3).ofg ju_J5_100 (as := [.int (nI n)]) 0 rfl (show vwCl[1]? = _ from rfl) rfl rfl (Nat.le_of_ble_eq_true rfl) ⟨(Nat.le_of_ble_eq_true rfl), (Nat.le_of_ble_eq_true rfl)⟩ ⟨(Nat.le_of_ble_eq_true rfl), (Nat.le_of_ble_eq_true rfl)⟩ dJ5_append_cf1ce_21 (fun v9 ws9 h8 => ?_)
  obtain ⟨rfl, v1, f1, hf1, hw9⟩ := h8
  rw [if_pos h2] at hw9
  subst ws9
  dsimp only [mPush]
  refine r_aload_n hX dJ5_append_cf1ce_24 rfl rfl (r_aload_n hX dJ5_append_cf1ce_25 rfl rfl (r_get hX jf_J5_79 0 rfl rfl dJ5_append_cf1ce_26 (r_aload_n hX dJ5_append_cf1ce_29 rfl rfl (r_callU hX hg (c_putStringAt cs cB a b v1 ml n m f1 rest h2 h3) ju_J5_208 (as := [.int (nI n), .ref a]) 0 rfl (show vwCl[1]? = _ from rfl) rfl rfl (Nat.le_of_ble_eq_true rfl) ⟨(Nat.le_of_ble_eq_true rfl), (Nat.le_of_ble_eq_true rfl)⟩ ⟨(Nat.le_of_ble_eq_true rfl), (Nat.le_of_ble_eq_true rfl)⟩ dJ5_append_cf1ce_30 (fun v9 ws9 h8 => ?_)))))
  obtain ⟨rfl, hw9⟩ := h8
  subst ws9
  dsimp only [mPush]
  refine r_aload_n hX dJ5_append_cf1ce_33 rfl rfl (r_dup hX dJ5_append_cf1ce_34 rfl (r_get hX jf_J5_79 0 rfl rfl dJ5_append_cf1ce_35 (r_iload_n hX dJ5_append_cf1ce_38 rfl rfl (r_iadd hX dJ5_append_cf1ce_39 ?_))))
  rw [show nI n + 0 = nI n from Int32.add_zero _]
  refine r_put hX jf_J5_79 0 rfl rfl rfl rfl (Nat.le_of_ble_eq_true rfl) dJ5_append_cf1ce_40 (r_aload_n hX dJ5_append_cf1ce_43 rfl rfl ?_)
  exact r_aret hX hE dJ5_append_cf1ce_44 (Or.inl ⟨_, rfl⟩) (Or.inr ⟨_, rfl⟩) (Nat.le_of_ble_eq_true rfl) (Nat.le_of_ble_eq_true rfl) ⟨rfl, v1, f1, hf1, rfl⟩
set_option maxHeartbeats 1000000 in
theorem c_sbAppendS (cs : ClassId × ClassId × ClassId) (cB : ClassId) (a b v : Nat) (ml : Int32) (n m : Nat) (f : Nat → Int32) (rest : va_W) (hf : sb_Fit f) (h2 : n ≤ m) (h3 : m ≤ 64) : mCg (mEm a) (mTb4 cs cB) yJ4_append_15ec4 cJ4_append_15ec4 2 (some (.object "java/lang/StringBuilder")) ⟨5, 1, 64, 210⟩ [.ref b, .ref a] (mSb b v ml n cB m f rest) (fun v9 ws' => v9 = some (.ref b) ∧ ∃ (v' : Nat) (f' : Nat → Int32), sb_Fit f' ∧ ws' = mSb b v' ml n cB m f' rest) := by
  refine mCg.of (mEm_s a) (by decide +kernel) (Nat.le_of_ble_eq_true rfl) (fun X hX hg hE => ?_)
  replace hX : mOK X RJ4 cJ4_append_15ec4 2 ⟨5, 1, 64, 210⟩ [] (mTb4 cs cB) := hX
  refine r_aload_n hX dJ4_append_15ec4_0 rfl rfl (r_aload_n hX dJ4_append_15ec4_1 rfl rfl (r_callSU hX hg (c_asbAppendS cs cB a b v ml n m f rest hf h2 h3) jsu_J4_29 (as := [.ref a]) 0 rfl (show vwCl[1]? = _ from rfl) rfl rfl (Nat.le_of_ble_eq_true rfl) ⟨(Nat.le_of_ble_eq_true rfl), (Nat.le_of_ble_eq_true rfl)⟩ ⟨(Nat.le_of_ble_eq_true rfl), (Nat.le_of_ble_eq_true rfl)⟩ dJ4_append_15ec4_2 (fun v9 ws9 h8 => ?_)))
  obtain ⟨rfl, v1, f1, hf1, hw9⟩ := h8
  subst ws9
  dsimp only [mPush]
  refine r_pop hX dJ4_append_15ec4_5 rfl (r_aload_n hX dJ4_append_15ec4_6 rfl rfl ?_)
  exact r_aret hX hE dJ4_append_15ec4_7 (Or.inl ⟨_, rfl⟩) (Or.inr ⟨_, rfl⟩) (Nat.le_of_ble_eq_true rfl) (Nat.le_of_ble_eq_true rfl) ⟨rfl, v1, f1, hf1, rfl⟩
end
-- 39 jdk
section
/-! Text methods of the JDK, their contracts. (Rows by a program of this repository.) -/
def mP (i : Nat) : Int64 := Int64.ofInt (-((10 ^ i : Nat) : Int))
theorem mP_toInt : ∀ i, i < 19 → (mP i).toInt = -((10 ^ i : Nat) : Int) := by decide +kernel
theorem mP_step (i : Nat) : (10 : Int64) * mP i = mP (i + 1) := by
  show Int64.ofInt 10 * Int64.ofInt (-((10 ^ i : Nat) : Int)) = Int64.ofInt (-((10 ^ (i + 1) : Nat) : Int))
  rw [← Int64.ofInt_mul, Nat.pow_succ]
  congr 1
  push_cast
  omega
set_option maxHeartbeats 1000000 in
theorem c_stringSize (tys : List (ClassId × FieldType)) (ws : va_W) (x : Int64) : mCt tys yJ13_stringSize_95d88 cJ13_stringSize_95d88 6 (some .int) ⟨0, 0, 0, 0⟩ [.long x] ws (fun v9 ws' => ∃ d : Nat, 1 ≤ d ∧ d ≤ 19 ∧ x.toInt.natAbs < 10 ^ d ∧ v9 = some (.int (nI (d + if x.toInt < 0 then 1 else 0))) ∧ ws' = ws) mNo := by
  refine mCt.of (by decide +kernel) (Nat.le_of_ble_eq_true rfl) (fun X hX hE => ?_)
  replace hX : mOK X RJ13 cJ13_stringSize_95d88 6 ⟨0, 0, 0, 0⟩ [] tys := hX
  refine r_iconst (v := nI 1) hX dJ13_stringSize_95d88_0 (by decide) (r_istore_n hX dJ13_stringSize_95d88_1 rfl (by decide) rfl ?_)
  have main : ∀ (y : Int64) (s : Nat), s < 2 → y.toInt = -(x.toInt.natAbs : Int) → (∀ d : Nat, 1 ≤ d → d ≤ 19 → x.toInt.natAbs < 10 ^ d → ∃ d' : Nat, 1 ≤ d' ∧ d' ≤ 19 ∧ x.toInt.natAbs < 10 ^ d' ∧ some (Value.int (nI (d + s))) = some (Value.int (nI (d' + if x.toInt < 0 then 1 else 0))) ∧ ws = ws) → mV X 13 [(0, some (.long y)), (2, some (.int (nI s)))] [] ws 0 0 := by
    intro y s hs hy hfin
    have L : ∀ (f i : Nat), 19 - i < f → 1 ≤ i → i ≤ 19 → mV X 20 [(0, some (.long y)), (2, some (.int (nI s))), (3, some (.long (mP i))), (5, some (.int (nI i)))] [] ws 0 0 := by
      intro f
      induction f with
      | zero => intro i; omega
      | succ f ih =>
        intro i hf h1 h2
        refine r_iload hX dJ13_stringSize_95d88_20 rfl (r_bipush (v := nI 19) hX dJ13_stringSize_95d88_22 (by decide +kernel) (r_icmp_ge (tgt := 50) hX dJ13_stringSize_95d88_24 (by decide) (fun c9 => ?_) (fun c9 => ?_)))
        · refine r_bipush (v := nI 19) hX dJ13_stringSize_95d88_50 (by decide +kernel) (r_iload_n hX dJ13_stringSize_95d88_52 rfl rfl (r_iadd hX dJ13_stringSize_95d88_53 ?_))
          rw [nI_add]
          have hb1 := Int64.le_toInt x
          have hb2 := Int64.toInt_lt x
          exact r_iret hX hE dJ13_stringSize_95d88_54 (Nat.le_of_ble_eq_true rfl) (Nat.le_of_ble_eq_true rfl) (hfin 19 (by decide) (by decide) (by omega))
        · have h3 : i < 19 := by
            rcases Nat.lt_or_ge i 19 with q | q
            · exact q
            · exact absurd (nI_le q (by omega)) c9
          have hp := mP_toInt i h3
          refine r_lload_n hX dJ13_stringSize_95d88_27 rfl rfl (r_lload_n hX dJ13_stringSize_95d88_28 rfl rfl (r_lcmp hX dJ13_stringSize_95d88_29 (r_if_le (tgt := 38) hX dJ13_stringSize_95d88_30 (by decide) (fun _ => ?_) (fun c8 => ?_))))
          · refine r_ldc2 hX jc_J13_53 dJ13_stringSize_95d88_38 (r_lload_n hX dJ13_stringSize_95d88_41 rfl rfl (r_lmul hX dJ13_stringSize_95d88_42 (r_lstore_n hX dJ13_stringSize_95d88_43 rfl (by decide) rfl (r_iinc hX dJ13_stringSize_95d88_44 rfl (by decide) rfl (r_goto (tgt := 20) hX dJ13_stringSize_95d88_47 (by decide) ?_)))))
            exact r_loc (k' := 0) (n' := 0) (by exact ⟨rfl, rfl, congrArg (fun z => some (Value.long z)) (mP_step i), nI_inc' _, trivial⟩) (Nat.le_of_ble_eq_true rfl) (Nat.le_of_ble_eq_true rfl) (ih (i + 1) (by omega) (by omega) (by omega))
          · have h4 : (mP i).toInt < y.toInt := Int64.lt_iff_toInt_lt.mp (Int64.not_le.mp (fun q => c8 ((lg_cmp_le _ _).mpr q)))
            refine r_iload hX dJ13_stringSize_95d88_33 rfl (r_iload_n hX dJ13_stringSize_95d88_35 rfl rfl (r_iadd hX dJ13_stringSize_95d88_36 ?_))
            rw [nI_add]
            exact r_iret hX hE dJ13_stringSize_95d88_37 (Nat.le_of_ble_eq_true rfl) (Nat.le_of_ble_eq_true rfl) (hfin i h1 h2 (by omega))
    refine r_ldc2 hX jc_J13_140 dJ13_stringSize_95d88_13 (r_lstore_n hX dJ13_stringSize_95d88_16 rfl (by decide) rfl (r_iconst (v := nI 1) hX dJ13_stringSize_95d88_17 (by decide) (r_istore hX dJ13_stringSize_95d88_18 (by decide) rfl ?_)))
    exact r_loc (k' := 0) (n' := 0) (by exact ⟨rfl, rfl, congrArg (fun z => some (Value.long z)) (show (-10 : Int64) = mP 1 by decide +kernel), rfl, trivial⟩) (Nat.le_of_ble_eq_true rfl) (Nat.le_of_ble_eq_true rfl) (L 20 1 (by omega) (by omega) (by omega))
  refine r_lload_n hX dJ13_stringSize_95d88_2 rfl rfl (r_lconst (v := 0) hX dJ13_stringSize_95d88_3 (by decide) (r_lcmp hX dJ13_stringSize_95d88_4 (r_if_lt (tgt := 13) hX dJ13_stringSize_95d88_5 (by decide) (fun c9 => ?_) (fun c9 => ?_))))
  · have h0 : x.toInt < 0 := by simpa using Int64.lt_iff_toInt_lt.mp ((lg_cmp_lt _ _).mp c9)
    exact r_loc (k' := 0) (n' := 0) (by exact ⟨rfl, rfl, trivial⟩) (Nat.le_of_ble_eq_true rfl) (Nat.le_of_ble_eq_true rfl) (main x 1 (by decide) (by omega) (fun d g1 g2 g3 => ⟨d, g1, g2, g3, by rw [if_pos h0], rfl⟩))
  · have h0 : ¬ x.toInt < 0 := fun q => c9 ((lg_cmp_lt _ _).mpr (Int64.lt_iff_toInt_lt.mpr (by simpa using q)))
    refine r_iconst (v := nI 0) hX dJ13_stringSize_95d88_8 (by decide) (r_istore_n hX dJ13_stringSize_95d88_9 rfl (by decide) rfl (r_lload_n hX dJ13_stringSize_95d88_10 rfl rfl (r_lneg hX dJ13_stringSize_95d88_11 (r_lstore_n hX dJ13_stringSize_95d88_12 rfl (by decide) rfl ?_))))
    have hb2 := Int64.toInt_lt x
    exact r_loc (k' := 0) (n' := 0) (by exact ⟨rfl, rfl, trivial⟩) (Nat.le_of_ble_eq_true rfl) (Nat.le_of_ble_eq_true rfl) (main (-x) 0 (by decide) (by rw [Int64.toInt_neg, Int.bmod_eq_of_le (by omega) (by omega)]; omega) (fun d g1 g2 g3 => ⟨d, g1, g2, g3, by rw [if_neg h0], rfl⟩))
end
-- 40 jdk
section
/-! The class's text of a number. (Rows by a program of this repository.) -/
theorem mrem10 (y : Int64) : -9 ≤ (y - y / 10 * 10).toInt ∧ (y - y / 10 * 10).toInt ≤ 9 := by
  have a := (y % 10).toInt_lt
  have b := (y % 10).le_toInt
  rw [Int64.toInt_mod] at a b
  have e : (y - y / 10 * 10).toInt = y.toInt.tmod (10 : Int64).toInt := by
    rw [Int64.toInt_sub, Int64.toInt_mul, Int64.toInt_div, Int.bmod_mul_bmod, Int.sub_bmod_bmod, Int.mul_comm, ← Int.tmod_def]
    exact Int.bmod_eq_of_le (by omega) (by omega)
  have e2 : (10 : Int64).toInt = 10 := by decide
  rw [e, e2]
  have h1 := Int.lt_tmod_of_pos y.toInt (show (0 : Int) < 10 by decide)
  have h2 := Int.tmod_lt_of_pos y.toInt (show (0 : Int) < 10 by decide)
  omega
theorem mdig (y : Int64) : ∃ c : Nat, c < 256 ∧ ((((48 : Int64) + (y - y / 10 * 10)).toInt32).toUInt32 % 65536).toInt32 = nI c := by
  obtain ⟨h1, h2⟩ := mrem10 y
  have e : y - y / 10 * 10 = Int64.ofInt (y - y / 10 * 10).toInt := (Int64.ofInt_toInt _).symm
  rw [e]
  generalize (y - y / 10 * 10).toInt = z at h1 h2
  rcases (show z = -9 ∨ z = -8 ∨ z = -7 ∨ z = -6 ∨ z = -5 ∨ z = -4 ∨ z = -3 ∨ z = -2 ∨ z = -1 ∨ z = 0 ∨ z = 1 ∨ z = 2 ∨ z = 3 ∨ z = 4 ∨ z = 5 ∨ z = 6 ∨ z = 7 ∨ z = 8 ∨ z = 9 by omega) with rfl | rfl | rfl | rfl | rfl | rfl | rfl | rfl | rfl | rfl | rfl | rfl | rfl | rfl | rfl | rfl | rfl | rfl | rfl
  · exact ⟨39, by decide, by decide +kernel⟩
  · exact ⟨40, by decide, by decide +kernel⟩
  · exact ⟨41, by decide, by decide +kernel⟩
  · exact ⟨42, by decide, by decide +kernel⟩
  · exact ⟨43, by decide, by decide +kernel⟩
  · exact ⟨44, by decide, by decide +kernel⟩
  · exact ⟨45, by decide, by decide +kernel⟩
  · exact ⟨46, by decide, by decide +kernel⟩
  · exact ⟨47, by decide, by decide +kernel⟩
  · exact ⟨48, by decide, by decide +kernel⟩
  · exact ⟨49, by decide, by decide +kernel⟩
  · exact ⟨50, by decide, by decide +kernel⟩
  · exact ⟨51, by decide, by decide +kernel⟩
  · exact ⟨52, by decide, by decide +kernel⟩
  · exact ⟨53, by decide, by decide +kernel⟩
  · exact ⟨54, by decide, by decide +kernel⟩
  · exact ⟨55, by decide, by decide +kernel⟩
  · exact ⟨56, by decide, by decide +kernel⟩
  · exact ⟨57, by decide, by decide +kernel⟩
theorem dX2_textOf_w0 : (cX2_textOf.data.toList.drop 0).take 64 = [187, 1, 24, 89, 183, 1, 26, 77, 30, 184, 1, 27, 66, 3, 54, 5, 21, 5, 16, 19, 162, 0, 42, 21, 5, 153, 0, 9, 33, 9, 148, 158, 0, 31, 44, 20, 1, 30, 33, 20, 1, 32, 113, 97, 136, 146, 182, 1, 34, 87, 33, 20, 1, 32, 109, 66, 132, 5, 1, 167, 255, 213, 30, 9] := by decide +kernel
theorem dX2_textOf_w1 : (cX2_textOf.data.toList.drop 64).take 64 = [148, 156, 0, 10, 44, 16, 45, 182, 1, 34, 87, 44, 182, 1, 38, 182, 1, 42, 176] := by decide +kernel
theorem dX2_textOf_v0 : (cX2_textOf.data.toList.drop 0).take 16 = [187, 1, 24, 89, 183, 1, 26, 77, 30, 184, 1, 27, 66, 3, 54, 5] := dq_sub (n := 0) (j := 0) dX2_textOf_w0 (by decide) rfl
theorem dX2_textOf_v1 : (cX2_textOf.data.toList.drop 16).take 16 = [21, 5, 16, 19, 162, 0, 42, 21, 5, 153, 0, 9, 33, 9, 148, 158] := dq_sub (n := 0) (j := 16) dX2_textOf_w0 (by decide) rfl
theorem dX2_textOf_v2 : (cX2_textOf.data.toList.drop 32).take 16 = [0, 31, 44, 20, 1, 30, 33, 20, 1, 32, 113, 97, 136, 146, 182, 1] := dq_sub (n := 0) (j := 32) dX2_textOf_w0 (by decide) rfl
theorem dX2_textOf_v3 : (cX2_textOf.data.toList.drop 48).take 16 = [34, 87, 33, 20, 1, 32, 109, 66, 132, 5, 1, 167, 255, 213, 30, 9] := dq_sub (n := 0) (j := 48) dX2_textOf_w0 (by decide) rfl
theorem dX2_textOf_v4 : (cX2_textOf.data.toList.drop 64).take 16 = [148, 156, 0, 10, 44, 16, 45, 182, 1, 34, 87, 44, 182, 1, 38, 182] := dq_sub (n := 64) (j := 0) dX2_textOf_w1 (by decide) rfl
theorem dX2_textOf_v5 : (cX2_textOf.data.toList.drop 80).take 16 = [1, 42, 176] := dq_sub (n := 64) (j := 16) dX2_textOf_w1 (by decide) rfl
theorem dX2_textOf_0 : decode cX2_textOf 0 = .ok (.new 280, 3) := dk_187 (dq_lk dX2_textOf_v0 (r := 0) (x := 187) rfl) (dq_lk dX2_textOf_v0 (r := 1) (x := 1) rfl) (dq_lk dX2_textOf_v0 (r := 2) (x := 24) rfl)
theorem dX2_textOf_3 : decode cX2_textOf 3 = .ok (.dup, 1) := dk_89 (dq_lk dX2_textOf_v0 (r := 3) (x := 89) rfl)
theorem dX2_textOf_4 : decode cX2_textOf 4 = .ok (.invokespecial 282, 3) := dk_183 (dq_lk dX2_textOf_v0 (r := 4) (x := 183) rfl) (dq_lk dX2_textOf_v0 (r := 5) (x := 1) rfl) (dq_lk dX2_textOf_v0 (r := 6) (x := 26) rfl)
theorem dX2_textOf_7 : decode cX2_textOf 7 = .ok (.astore_n 2, 1) := dk_77 (dq_lk dX2_textOf_v0 (r := 7) (x := 77) rfl)
theorem dX2_textOf_8 : decode cX2_textOf 8 = .ok (.lload_n 0, 1) := dk_30 (dq_lk dX2_textOf_v0 (r := 8) (x := 30) rfl)
theorem dX2_textOf_9 : decode cX2_textOf 9 = .ok (.invokestatic 283, 3) := dk_184 (dq_lk dX2_textOf_v0 (r := 9) (x := 184) rfl) (dq_lk dX2_textOf_v0 (r := 10) (x := 1) rfl) (dq_lk dX2_textOf_v0 (r := 11) (x := 27) rfl)
theorem dX2_textOf_12 : decode cX2_textOf 12 = .ok (.lstore_n 3, 1) := dk_66 (dq_lk dX2_textOf_v0 (r := 12) (x := 66) rfl)
theorem dX2_textOf_13 : decode cX2_textOf 13 = .ok (.iconst 0, 1) := dk_3 (dq_lk dX2_textOf_v0 (r := 13) (x := 3) rfl)
theorem dX2_textOf_14 : decode cX2_textOf 14 = .ok (.istore 5, 2) := dk_54 (dq_lk dX2_textOf_v0 (r := 14) (x := 54) rfl) (dq_lk dX2_textOf_v0 (r := 15) (x := 5) rfl)
theorem dX2_textOf_16 : decode cX2_textOf 16 = .ok (.iload 5, 2) := dk_21 (dq_lk dX2_textOf_v1 (r := 0) (x := 21) rfl) (dq_lk dX2_textOf_v1 (r := 1) (x := 5) rfl)
theorem dX2_textOf_18 : decode cX2_textOf 18 = .ok (.bipush 19, 2) := dk_16 (dq_lk dX2_textOf_v1 (r := 2) (x := 16) rfl) (dq_lk dX2_textOf_v1 (r := 3) (x := 19) rfl) (by decide +kernel)
theorem dX2_textOf_20 : decode cX2_textOf 20 = .ok (.if_icmp .ge 42, 3) := dk_162 (dq_lk dX2_textOf_v1 (r := 4) (x := 162) rfl) (dq_lk dX2_textOf_v1 (r := 5) (x := 0) rfl) (dq_lk dX2_textOf_v1 (r := 6) (x := 42) rfl) (by decide +kernel)
theorem dX2_textOf_23 : decode cX2_textOf 23 = .ok (.iload 5, 2) := dk_21 (dq_lk dX2_textOf_v1 (r := 7) (x := 21) rfl) (dq_lk dX2_textOf_v1 (r := 8) (x := 5) rfl)
theorem dX2_textOf_25 : decode cX2_textOf 25 = .ok (.ifCond .eq 9, 3) := dk_153 (dq_lk dX2_textOf_v1 (r := 9) (x := 153) rfl) (dq_lk dX2_textOf_v1 (r := 10) (x := 0) rfl) (dq_lk dX2_textOf_v1 (r := 11) (x := 9) rfl) (by decide +kernel)
theorem dX2_textOf_28 : decode cX2_textOf 28 = .ok (.lload_n 3, 1) := dk_33 (dq_lk dX2_textOf_v1 (r := 12) (x := 33) rfl)
theorem dX2_textOf_29 : decode cX2_textOf 29 = .ok (.lconst 0, 1) := dk_9 (dq_lk dX2_textOf_v1 (r := 13) (x := 9) rfl)
theorem dX2_textOf_30 : decode cX2_textOf 30 = .ok (.lcmp, 1) := dk_148 (dq_lk dX2_textOf_v1 (r := 14) (x := 148) rfl)
theorem dX2_textOf_31 : decode cX2_textOf 31 = .ok (.ifCond .le 31, 3) := dk_158 (dq_lk dX2_textOf_v1 (r := 15) (x := 158) rfl) (dq_lk dX2_textOf_v2 (r := 0) (x := 0) rfl) (dq_lk dX2_textOf_v2 (r := 1) (x := 31) rfl) (by decide +kernel)
theorem dX2_textOf_34 : decode cX2_textOf 34 = .ok (.aload_n 2, 1) := dk_44 (dq_lk dX2_textOf_v2 (r := 2) (x := 44) rfl)
theorem dX2_textOf_35 : decode cX2_textOf 35 = .ok (.ldc2_w 286, 3) := dk_20 (dq_lk dX2_textOf_v2 (r := 3) (x := 20) rfl) (dq_lk dX2_textOf_v2 (r := 4) (x := 1) rfl) (dq_lk dX2_textOf_v2 (r := 5) (x := 30) rfl)
theorem dX2_textOf_38 : decode cX2_textOf 38 = .ok (.lload_n 3, 1) := dk_33 (dq_lk dX2_textOf_v2 (r := 6) (x := 33) rfl)
theorem dX2_textOf_39 : decode cX2_textOf 39 = .ok (.ldc2_w 288, 3) := dk_20 (dq_lk dX2_textOf_v2 (r := 7) (x := 20) rfl) (dq_lk dX2_textOf_v2 (r := 8) (x := 1) rfl) (dq_lk dX2_textOf_v2 (r := 9) (x := 32) rfl)
theorem dX2_textOf_42 : decode cX2_textOf 42 = .ok (.lrem, 1) := dk_113 (dq_lk dX2_textOf_v2 (r := 10) (x := 113) rfl)
theorem dX2_textOf_43 : decode cX2_textOf 43 = .ok (.ladd, 1) := dk_97 (dq_lk dX2_textOf_v2 (r := 11) (x := 97) rfl)
theorem dX2_textOf_44 : decode cX2_textOf 44 = .ok (.l2i, 1) := dk_136 (dq_lk dX2_textOf_v2 (r := 12) (x := 136) rfl)
theorem dX2_textOf_45 : decode cX2_textOf 45 = .ok (.i2c, 1) := dk_146 (dq_lk dX2_textOf_v2 (r := 13) (x := 146) rfl)
theorem dX2_textOf_46 : decode cX2_textOf 46 = .ok (.invokevirtual 290, 3) := dk_182 (dq_lk dX2_textOf_v2 (r := 14) (x := 182) rfl) (dq_lk dX2_textOf_v2 (r := 15) (x := 1) rfl) (dq_lk dX2_textOf_v3 (r := 0) (x := 34) rfl)
theorem dX2_textOf_49 : decode cX2_textOf 49 = .ok (.pop, 1) := dk_87 (dq_lk dX2_textOf_v3 (r := 1) (x := 87) rfl)
theorem dX2_textOf_50 : decode cX2_textOf 50 = .ok (.lload_n 3, 1) := dk_33 (dq_lk dX2_textOf_v3 (r := 2) (x := 33) rfl)
theorem dX2_textOf_51 : decode cX2_textOf 51 = .ok (.ldc2_w 288, 3) := dk_20 (dq_lk dX2_textOf_v3 (r := 3) (x := 20) rfl) (dq_lk dX2_textOf_v3 (r := 4) (x := 1) rfl) (dq_lk dX2_textOf_v3 (r := 5) (x := 32) rfl)
theorem dX2_textOf_54 : decode cX2_textOf 54 = .ok (.ldiv, 1) := dk_109 (dq_lk dX2_textOf_v3 (r := 6) (x := 109) rfl)
theorem dX2_textOf_55 : decode cX2_textOf 55 = .ok (.lstore_n 3, 1) := dk_66 (dq_lk dX2_textOf_v3 (r := 7) (x := 66) rfl)
theorem dX2_textOf_56 : decode cX2_textOf 56 = .ok (.iinc 5 1, 3) := dk_132 (dq_lk dX2_textOf_v3 (r := 8) (x := 132) rfl) (dq_lk dX2_textOf_v3 (r := 9) (x := 5) rfl) (dq_lk dX2_textOf_v3 (r := 10) (x := 1) rfl) (by decide +kernel)
theorem dX2_textOf_59 : decode cX2_textOf 59 = .ok (.goto (-43), 3) := dk_167 (dq_lk dX2_textOf_v3 (r := 11) (x := 167) rfl) (dq_lk dX2_textOf_v3 (r := 12) (x := 255) rfl) (dq_lk dX2_textOf_v3 (r := 13) (x := 213) rfl) (by decide +kernel)
theorem dX2_textOf_62 : decode cX2_textOf 62 = .ok (.lload_n 0, 1) := dk_30 (dq_lk dX2_textOf_v3 (r := 14) (x := 30) rfl)
theorem dX2_textOf_63 : decode cX2_textOf 63 = .ok (.lconst 0, 1) := dk_9 (dq_lk dX2_textOf_v3 (r := 15) (x := 9) rfl)
theorem dX2_textOf_64 : decode cX2_textOf 64 = .ok (.lcmp, 1) := dk_148 (dq_lk dX2_textOf_v4 (r := 0) (x := 148) rfl)
theorem dX2_textOf_65 : decode cX2_textOf 65 = .ok (.ifCond .ge 10, 3) := dk_156 (dq_lk dX2_textOf_v4 (r := 1) (x := 156) rfl) (dq_lk dX2_textOf_v4 (r := 2) (x := 0) rfl) (dq_lk dX2_textOf_v4 (r := 3) (x := 10) rfl) (by decide +kernel)
theorem dX2_textOf_68 : decode cX2_textOf 68 = .ok (.aload_n 2, 1) := dk_44 (dq_lk dX2_textOf_v4 (r := 4) (x := 44) rfl)
theorem dX2_textOf_69 : decode cX2_textOf 69 = .ok (.bipush 45, 2) := dk_16 (dq_lk dX2_textOf_v4 (r := 5) (x := 16) rfl) (dq_lk dX2_textOf_v4 (r := 6) (x := 45) rfl) (by decide +kernel)
theorem dX2_textOf_71 : decode cX2_textOf 71 = .ok (.invokevirtual 290, 3) := dk_182 (dq_lk dX2_textOf_v4 (r := 7) (x := 182) rfl) (dq_lk dX2_textOf_v4 (r := 8) (x := 1) rfl) (dq_lk dX2_textOf_v4 (r := 9) (x := 34) rfl)
theorem dX2_textOf_74 : decode cX2_textOf 74 = .ok (.pop, 1) := dk_87 (dq_lk dX2_textOf_v4 (r := 10) (x := 87) rfl)
theorem dX2_textOf_75 : decode cX2_textOf 75 = .ok (.aload_n 2, 1) := dk_44 (dq_lk dX2_textOf_v4 (r := 11) (x := 44) rfl)
theorem dX2_textOf_76 : decode cX2_textOf 76 = .ok (.invokevirtual 294, 3) := dk_182 (dq_lk dX2_textOf_v4 (r := 12) (x := 182) rfl) (dq_lk dX2_textOf_v4 (r := 13) (x := 1) rfl) (dq_lk dX2_textOf_v4 (r := 14) (x := 38) rfl)
theorem dX2_textOf_79 : decode cX2_textOf 79 = .ok (.invokevirtual 298, 3) := dk_182 (dq_lk dX2_textOf_v4 (r := 15) (x := 182) rfl) (dq_lk dX2_textOf_v5 (r := 0) (x := 1) rfl) (dq_lk dX2_textOf_v5 (r := 1) (x := 42) rfl)
theorem dX2_textOf_82 : decode cX2_textOf 82 = .ok (.areturn, 1) := dk_176 (dq_lk dX2_textOf_v5 (r := 2) (x := 176) rfl)
set_option maxHeartbeats 1000000 in
theorem c_textOf (cs : ClassId × ClassId × ClassId) (ws : va_W) (x : Int64) : mCt (mTy cs) yX2_textOf cX2_textOf 6 (some (.object "java/lang/String")) ⟨6, 30, 1500, 280⟩ [.long x] ws (fun v9 ws' => (∃ s : Nat, v9 = some (.ref s)) ∧ ws' = ws) mNo := by
  refine mCt.of (by decide +kernel) (Nat.le_of_ble_eq_true rfl) (fun X hX hE => ?_)
  replace hX : mOK X RX2 cX2_textOf 6 ⟨6, 30, 1500, 280⟩ [] (mTy cs) := hX
  refine r_byte hX hE (fun Y cB hX hE => ?_)
  refine r_new hX kinJ4 tyJ4_ok kl_X2_280 jn_J4 jt_J4 (show vwCl[1]? = _ from rfl) (fs := [.null, .int 0, .int 0, .int 0]) mJ4z (Nat.le_of_ble_eq_true rfl) (Nat.le_of_ble_eq_true rfl) dX2_textOf_0 (fun b => ?_)
  refine r_dup hX dX2_textOf_3 rfl (r_callI hX (c_sbInit cs cB b ws) ji_X2_282 (as := []) rfl rfl (Nat.le_of_ble_eq_true rfl) ⟨(Nat.le_of_ble_eq_true rfl), (Nat.le_of_ble_eq_true rfl)⟩ ⟨(Nat.le_of_ble_eq_true rfl), (Nat.le_of_ble_eq_true rfl)⟩ dX2_textOf_4 (fun v9 ws9 h8 => ?_))
  obtain ⟨rfl, v0, f0, hf0, hw9⟩ := h8
  subst ws9
  dsimp only [mPush]
  have fin2 : ∀ (d m v : Nat) (f : Nat → Int32) (kk nn : Nat), 1 ≤ d → ((m = 16 ∧ d ≤ 16) ∨ (m = 34 ∧ d ≤ 34)) → sb_Fit f → kk ≤ 25 → nn ≤ 1400 → mV Y 75 [(0, some (.long x)), (2, some (.ref b))] [] (mSb b v 0 d cB m f ws) kk nn := by
    intro d m v f kk nn h1 h2 hf hk hn
    refine r_aload_n hX dX2_textOf_75 rfl rfl (r_callV hX (c_sbReverse cs cB b v 0 d m f ws hf h1 (by omega) (by omega)) jv_X2_294 0 rfl rfl (as := []) rfl rfl (Nat.le_of_ble_eq_true rfl) ⟨(Nat.le_of_ble_eq_true rfl), (Nat.le_of_ble_eq_true rfl)⟩ ⟨by show kk + 0 ≤ 30; omega, by show nn + 0 ≤ 1500; omega⟩ dX2_textOf_76 (fun _ _ z => False.elim z) (fun v9 ws9 h8 => ?_))
    obtain ⟨rfl, f1, hf1, hw9⟩ := h8
    subst ws9
    dsimp only [mPush]
    refine r_callV hX (c_toString cs cB b v 0 d m f1 ws hf1 (by omega) (by omega)) jv_X2_298 0 rfl rfl (as := []) rfl rfl (Nat.le_of_ble_eq_true rfl) ⟨(Nat.le_of_ble_eq_true rfl), (Nat.le_of_ble_eq_true rfl)⟩ ⟨by show kk + 0 + 2 ≤ 30; omega, by show nn + 0 + 68 ≤ 1500; omega⟩ dX2_textOf_79 (fun _ _ z => False.elim z) (fun v9 ws9 h8 => ?_)
    obtain ⟨⟨s, rfl⟩, hw9⟩ := h8
    subst ws9
    dsimp only [mPush]
    exact r_aret hX hE dX2_textOf_82 (Or.inl ⟨_, rfl⟩) (Or.inr ⟨_, rfl⟩) (by show kk + 0 + 2 ≤ 30; omega) (by show nn + 0 + 68 ≤ 1500; omega) ⟨⟨s, rfl⟩, rfl⟩
  have fin : ∀ (d m v : Nat) (f : Nat → Int32) (kk nn : Nat), 1 ≤ d → d ≤ 19 → ((m = 16 ∧ d ≤ 16) ∨ (m = 34 ∧ d ≤ 34)) → sb_Fit f → kk ≤ 22 → nn ≤ 1250 → mV Y 62 [(0, some (.long x)), (2, some (.ref b))] [] (mSb b v 0 d cB m f ws) kk nn := by
    intro d m v f kk nn h1 h19 h2 hf hk hn
    refine r_lload_n hX dX2_textOf_62 rfl rfl (r_lconst (v := 0) hX dX2_textOf_63 (by decide) (r_lcmp hX dX2_textOf_64 (r_if_ge (tgt := 75) hX dX2_textOf_65 (by decide) (fun _ => fin2 d m v f kk nn h1 h2 hf (by omega) (by omega)) (fun _ => ?_))))
    refine r_aload_n hX dX2_textOf_68 rfl rfl (r_bipush (v := nI 45) hX dX2_textOf_69 (by decide +kernel) (r_callV hX (c_sbAppendC cs cB b v 0 d m 45 f ws hf (by omega) (by omega) (by decide)) jv_X2_290 0 rfl rfl (as := [.int (nI 45)]) rfl rfl (Nat.le_of_ble_eq_true rfl) ⟨(Nat.le_of_ble_eq_true rfl), (Nat.le_of_ble_eq_true rfl)⟩ ⟨by show kk + 1 ≤ 30; omega, by show nn + 64 ≤ 1500; omega⟩ dX2_textOf_71 (fun _ _ z => False.elim z) (fun v9 ws9 h8 => ?_)))
    obtain ⟨rfl, v1, f1, hf1, hw9⟩ := h8
    subst ws9
    dsimp only [mPush]
    refine r_pop hX dX2_textOf_74 rfl ?_
    exact fin2 (d + 1) _ v1 f1 _ _ (by omega) (by split <;> omega) hf1 (by show kk + 1 ≤ 25; omega) (by show nn + 64 ≤ 1400; omega)
  have L : ∀ (g d m v : Nat) (f : Nat → Int32) (y : Int64) (kk nn : Nat), 19 - d < g → d ≤ 19 → ((m = 16 ∧ d ≤ 16) ∨ (m = 34 ∧ d ≤ 34)) → sb_Fit f → kk ≤ 2 + d → nn ≤ 20 + 64 * d → mV Y 16 [(0, some (.long x)), (2, some (.ref b)), (3, some (.long y)), (5, some (.int (nI d)))] [] (mSb b v 0 d cB m f ws) kk nn := by
    intro g
    induction g with
    | zero => intro d; omega
    | succ g ih =>
      intro d m v f y kk nn hg h19 h2 hf hk hn
      refine r_iload hX dX2_textOf_16 rfl (r_bipush (v := nI 19) hX dX2_textOf_18 (by decide +kernel) (r_icmp_ge (tgt := 62) hX dX2_textOf_20 (by decide) (fun c9 => ?_) (fun c9 => ?_)))
      · have h9 : 19 ≤ d := by
          rcases Nat.lt_or_ge d 19 with q | q
          · exact absurd c9 (show ¬ nI 19 ≤ nI d from fun z => absurd (nI_lt q (by decide)) (Int32.not_lt.mpr z))
          · exact q
        exact r_loc (k' := kk) (n' := nn) (by exact ⟨rfl, rfl, trivial⟩) (Nat.le_refl _) (Nat.le_refl _) (fin d m v f kk nn (by omega) h19 h2 hf (by omega) (by omega))
      · have h9 : d < 19 := by
          rcases Nat.lt_or_ge d 19 with q | q
          · exact q
          · exact absurd (nI_le q (by omega)) c9
        have body : mV Y 34 [(0, some (.long x)), (2, some (.ref b)), (3, some (.long y)), (5, some (.int (nI d)))] [] (mSb b v 0 d cB m f ws) kk nn := by
          refine r_aload_n hX dX2_textOf_34 rfl rfl (r_ldc2 hX kc_X2_286 dX2_textOf_35 (r_lload_n hX dX2_textOf_38 rfl rfl (r_ldc2 hX kc_X2_288 dX2_textOf_39 (r_lrem hX dX2_textOf_42 (by decide) (r_ladd hX dX2_textOf_43 (r_l2i hX dX2_textOf_44 ?_))))))
          obtain ⟨c, hc, ec⟩ := mdig y
          refine r_i2c hX dX2_textOf_45 ec (r_callV hX (c_sbAppendC cs cB b v 0 d m c f ws hf (by omega) (by omega) hc) jv_X2_290 0 rfl rfl (as := [.int (nI c)]) rfl rfl (Nat.le_of_ble_eq_true rfl) ⟨(Nat.le_of_ble_eq_true rfl), (Nat.le_of_ble_eq_true rfl)⟩ ⟨by show kk + 1 ≤ 30; omega, by show nn + 64 ≤ 1500; omega⟩ dX2_textOf_46 (fun _ _ z => False.elim z) (fun v9 ws9 h8 => ?_))
          obtain ⟨rfl, v1, f1, hf1, hw9⟩ := h8
          subst ws9
          dsimp only [mPush]
          refine r_pop hX dX2_textOf_49 rfl (r_lload_n hX dX2_textOf_50 rfl rfl (r_ldc2 hX kc_X2_288 dX2_textOf_51 (r_ldiv hX dX2_textOf_54 (by decide) (r_lstore_n hX dX2_textOf_55 rfl (by decide) rfl (r_iinc hX dX2_textOf_56 rfl (by decide) rfl (r_goto (tgt := 16) hX dX2_textOf_59 (by decide) ?_))))))
          exact r_loc (k' := _) (n' := _) (by exact ⟨rfl, rfl, rfl, nI_inc' _, trivial⟩) (Nat.le_refl _) (Nat.le_refl _) (ih (d + 1) _ v1 f1 _ _ _ (by omega) (by omega) (by split <;> omega) hf1 (by show kk + 1 ≤ 2 + (d + 1); omega) (by show nn + 64 ≤ 20 + 64 * (d + 1); omega))
        refine r_iload hX dX2_textOf_23 rfl (r_if_eq (tgt := 34) hX dX2_textOf_25 (by decide) (fun _ => body) (fun c8 => ?_))
        refine r_lload_n hX dX2_textOf_28 rfl rfl (r_lconst (v := 0) hX dX2_textOf_29 (by decide) (r_lcmp hX dX2_textOf_30 (r_if_le (tgt := 62) hX dX2_textOf_31 (by decide) (fun _ => ?_) (fun _ => body))))
        have h0 : 1 ≤ d := by
          rcases Nat.eq_zero_or_pos d with q | q
          · subst q
            exact absurd rfl c8
          · exact q
        exact r_loc (k' := kk) (n' := nn) (by exact ⟨rfl, rfl, trivial⟩) (Nat.le_refl _) (Nat.le_refl _) (fin d m v f kk nn h0 h19 h2 hf (by omega) (by omega))
  refine r_astore_n hX dX2_textOf_7 rfl (by decide) rfl (r_lload_n hX dX2_textOf_8 rfl rfl (r_mabsl hX jl_X2_283 (Nat.le_of_ble_eq_true rfl) (Nat.le_of_ble_eq_true rfl) (Nat.le_of_ble_eq_true rfl) (Nat.le_of_ble_eq_true rfl) dX2_textOf_9 (r_lstore_n hX dX2_textOf_12 rfl (by decide) rfl (r_iconst (v := nI 0) hX dX2_textOf_13 (by decide) (r_istore hX dX2_textOf_14 (by decide) rfl ?_)))))
  exact r_loc (k' := _) (n' := _) (by exact ⟨rfl, rfl, rfl, rfl, trivial⟩) (Nat.le_refl _) (Nat.le_refl _) (L 20 0 16 v0 f0 _ _ _ (by decide) (by decide) (Or.inl ⟨rfl, by decide⟩) hf0 (Nat.le_of_ble_eq_true rfl) (Nat.le_of_ble_eq_true rfl))
end
-- 41 jdk
section
/-! The class's millis. (Rows by a program of this repository.) -/
theorem dX2_millis_v0 : (cX2_millis.data.toList.drop 0).take 16 = [27, 42, 180, 0, 13, 190, 184, 0, 34, 42, 180, 0, 13, 27, 47, 20] := by decide +kernel
theorem dX2_millis_v1 : (cX2_millis.data.toList.drop 16).take 16 = [0, 78, 184, 0, 100, 184, 0, 106, 176] := by decide +kernel
theorem dX2_millis_0 : decode cX2_millis 0 = .ok (.iload_n 1, 1) := dk_27 (dq_lk dX2_millis_v0 (r := 0) (x := 27) rfl)
theorem dX2_millis_1 : decode cX2_millis 1 = .ok (.aload_n 0, 1) := dk_42 (dq_lk dX2_millis_v0 (r := 1) (x := 42) rfl)
theorem dX2_millis_2 : decode cX2_millis 2 = .ok (.getfield 13, 3) := dk_180 (dq_lk dX2_millis_v0 (r := 2) (x := 180) rfl) (dq_lk dX2_millis_v0 (r := 3) (x := 0) rfl) (dq_lk dX2_millis_v0 (r := 4) (x := 13) rfl)
theorem dX2_millis_5 : decode cX2_millis 5 = .ok (.arraylength, 1) := dk_190 (dq_lk dX2_millis_v0 (r := 5) (x := 190) rfl)
theorem dX2_millis_6 : decode cX2_millis 6 = .ok (.invokestatic 34, 3) := dk_184 (dq_lk dX2_millis_v0 (r := 6) (x := 184) rfl) (dq_lk dX2_millis_v0 (r := 7) (x := 0) rfl) (dq_lk dX2_millis_v0 (r := 8) (x := 34) rfl)
theorem dX2_millis_9 : decode cX2_millis 9 = .ok (.aload_n 0, 1) := dk_42 (dq_lk dX2_millis_v0 (r := 9) (x := 42) rfl)
theorem dX2_millis_10 : decode cX2_millis 10 = .ok (.getfield 13, 3) := dk_180 (dq_lk dX2_millis_v0 (r := 10) (x := 180) rfl) (dq_lk dX2_millis_v0 (r := 11) (x := 0) rfl) (dq_lk dX2_millis_v0 (r := 12) (x := 13) rfl)
theorem dX2_millis_13 : decode cX2_millis 13 = .ok (.iload_n 1, 1) := dk_27 (dq_lk dX2_millis_v0 (r := 13) (x := 27) rfl)
theorem dX2_millis_14 : decode cX2_millis 14 = .ok (.laload, 1) := dk_47 (dq_lk dX2_millis_v0 (r := 14) (x := 47) rfl)
theorem dX2_millis_15 : decode cX2_millis 15 = .ok (.ldc2_w 78, 3) := dk_20 (dq_lk dX2_millis_v0 (r := 15) (x := 20) rfl) (dq_lk dX2_millis_v1 (r := 0) (x := 0) rfl) (dq_lk dX2_millis_v1 (r := 1) (x := 78) rfl)
theorem dX2_millis_18 : decode cX2_millis 18 = .ok (.invokestatic 100, 3) := dk_184 (dq_lk dX2_millis_v1 (r := 2) (x := 184) rfl) (dq_lk dX2_millis_v1 (r := 3) (x := 0) rfl) (dq_lk dX2_millis_v1 (r := 4) (x := 100) rfl)
theorem dX2_millis_21 : decode cX2_millis 21 = .ok (.invokestatic 106, 3) := dk_184 (dq_lk dX2_millis_v1 (r := 5) (x := 184) rfl) (dq_lk dX2_millis_v1 (r := 6) (x := 0) rfl) (dq_lk dX2_millis_v1 (r := 7) (x := 106) rfl)
theorem dX2_millis_24 : decode cX2_millis 24 = .ok (.areturn, 1) := dk_176 (dq_lk dX2_millis_v1 (r := 8) (x := 176) rfl)
set_option maxHeartbeats 1000000 in
theorem c_X2_millis (ad : Nat → Nat) (cs : ClassId × ClassId × ClassId) (K : mK) (rest : va_W) (p0 : Int32) : mCt (mTy cs) yX2_millis cX2_millis 2 (some (.object "java/lang/String")) ⟨7, 31, 1506, 310⟩ [.ref (ad 0), .int p0] (mWd ad cs K rest) (fun v9 ws' => (∃ s : Nat, v9 = some (.ref s)) ∧ ws' = mWd ad cs K rest) (mTh [xI] (mWd ad cs K rest)) := by
  refine mCt.of (by decide +kernel) (Nat.le_of_ble_eq_true rfl) (fun X hX hE => ?_)
  replace hX : mOK X RX2 cX2_millis 2 ⟨7, 31, 1506, 310⟩ [] (mTy cs) := hX
  refine r_iload_n hX dX2_millis_0 rfl rfl (r_aload_n hX dX2_millis_1 rfl rfl (r_get hX kf_X2_13 0 rfl rfl dX2_millis_2 (r_alen (v := nI 4) hX 2 1 rfl rfl rfl dX2_millis_5 (r_callS hX (c_X2_requireOne _ _ _ 4 (by decide)) ks_X2_34 rfl rfl (Nat.le_of_ble_eq_true rfl) ⟨(Nat.le_of_ble_eq_true rfl), (Nat.le_of_ble_eq_true rfl)⟩ ⟨(Nat.le_of_ble_eq_true rfl), (Nat.le_of_ble_eq_true rfl)⟩ dX2_millis_6 (fun E ws9 z => r_out hX hE (Nat.le_of_ble_eq_true rfl) (Nat.le_of_ble_eq_true rfl) (⟨by rw [z.1]; exact List.mem_cons_self, z.2.1⟩)) (fun v9 ws9 h1 => ?_)))))
  obtain ⟨j, hj, rfl, rfl, hw9⟩ := h1
  subst ws9
  dsimp only [mPush]
  refine r_aload_n hX dX2_millis_9 rfl rfl (r_get hX kf_X2_13 0 rfl rfl dX2_millis_10 (r_iload_n hX dX2_millis_13 rfl rfl (r_lald hX 2 1 rfl rfl (vp_in_nI hj (by decide)) dX2_millis_14 (r_ldc2 hX kc_X2_78 dX2_millis_15 (r_callS hX (c_J9_floorDiv_f86c9 _ _ _ _ (by decide)) ks_X2_100 rfl rfl (Nat.le_of_ble_eq_true rfl) ⟨(Nat.le_of_ble_eq_true rfl), (Nat.le_of_ble_eq_true rfl)⟩ ⟨(Nat.le_of_ble_eq_true rfl), (Nat.le_of_ble_eq_true rfl)⟩ dX2_millis_18 (fun _ _ z => False.elim z) (fun v9 ws9 h1 => ?_))))))
  obtain ⟨r, rfl, hw9⟩ := h1
  subst ws9
  dsimp only [mPush]
  refine r_callS hX (c_textOf cs _ r) ks_X2_106 rfl rfl (Nat.le_of_ble_eq_true rfl) ⟨(Nat.le_of_ble_eq_true rfl), (Nat.le_of_ble_eq_true rfl)⟩ ⟨(Nat.le_of_ble_eq_true rfl), (Nat.le_of_ble_eq_true rfl)⟩ dX2_millis_21 (fun _ _ z => False.elim z) (fun v9 ws9 h1 => ?_)
  obtain ⟨⟨s, rfl⟩, hw9⟩ := h1
  subst ws9
  dsimp only [mPush]
  exact r_aret hX hE dX2_millis_24 (Or.inl ⟨_, rfl⟩) (Or.inr ⟨_, rfl⟩) (Nat.le_of_ble_eq_true rfl) (Nat.le_of_ble_eq_true rfl) ⟨⟨s, rfl⟩, rfl⟩
end
-- 42 jdk
section
/-! Long.getChars, Latin-1. (Rows by a program of this repository.) -/
theorem mpred {c : Nat} (h : 1 ≤ c) : nI c + Int32.ofInt (-1) = nI (c - 1) := by
  rw [mdec]
  exact pk_sub (b := 1) h
theorem mq64 {y : Int64} (h : y.toInt ≤ 0) : (y / 100).toInt = -((-y.toInt) / 100) ∧ ((y / 100 * 100 - y).toInt32).toInt = (-y.toInt) % 100 := by
  have a := y.le_toInt
  have e2 : (100 : Int64).toInt = 100 := by decide
  have e : (y / 100).toInt = -((-y.toInt) / 100) := by
    rw [Int64.toInt_div, e2, show y.toInt.tdiv 100 = -((-y.toInt) / 100) by
      rw [← Int.tdiv_eq_ediv_of_nonneg (show 0 ≤ -y.toInt by omega), Int.neg_tdiv, Int.neg_neg]]
    exact Int.bmod_eq_of_le (by omega) (by omega)
  refine ⟨e, ?_⟩
  have e3 : (y / 100 * 100).toInt = -((-y.toInt) / 100) * 100 := by
    rw [Int64.toInt_mul, e, e2]
    exact Int.bmod_eq_of_le (by omega) (by omega)
  have e4 : (y / 100 * 100 - y).toInt = (-y.toInt) % 100 := by
    rw [Int64.toInt_sub, e3, Int.bmod_eq_of_le (by omega) (by omega)]
    omega
  rw [Int64.toInt_toInt32, e4]
  exact Int.bmod_eq_of_le (by omega) (by omega)
theorem mq32 {y : Int32} (h : y.toInt ≤ 0) : (y / 100).toInt = -((-y.toInt) / 100) ∧ (y / 100 * 100 - y).toInt = (-y.toInt) % 100 := by
  have a := y.le_toInt
  have e2 : (100 : Int32).toInt = 100 := by decide
  have e : (y / 100).toInt = -((-y.toInt) / 100) := by
    rw [Int32.toInt_div, e2, show y.toInt.tdiv 100 = -((-y.toInt) / 100) by
      rw [← Int.tdiv_eq_ediv_of_nonneg (show 0 ≤ -y.toInt by omega), Int.neg_tdiv, Int.neg_neg]]
    exact Int.bmod_eq_of_le (by omega) (by omega)
  refine ⟨e, ?_⟩
  have e3 : (y / 100 * 100).toInt = -((-y.toInt) / 100) * 100 := by
    rw [Int32.toInt_mul, e, e2]
    exact Int.bmod_eq_of_le (by omega) (by omega)
  rw [Int32.toInt_sub, e3, Int.bmod_eq_of_le (by omega) (by omega)]
  omega
theorem mten {e : Nat} {z : Int} (h : z < ((10 ^ e : Nat) : Int)) (h2 : 100 ≤ z) : 3 ≤ e ∧ z / 100 < ((10 ^ (e - 2) : Nat) : Int) := by
  have h3 : 3 ≤ e := by
    rcases Nat.lt_or_ge e 3 with q | q
    · have h5 : (10 ^ e : Nat) ≤ 10 ^ 2 := Nat.pow_le_pow_right (by decide) (by omega)
      omega
    · exact q
  refine ⟨h3, ?_⟩
  have h6 : (10 ^ e : Nat) = 10 ^ (e - 2) * 100 := by
    rw [show (100 : Nat) = 10 ^ 2 by decide, ← Nat.pow_add]
    congr 1
    omega
  rw [h6] at h
  omega
set_option maxHeartbeats 1000000 in
theorem c_getChars (cs : ClassId × ClassId × ClassId) (cB : ClassId) (b v : Nat) (ml : Int32) (n m : Nat) (f : Nat → Int32) (rest : va_W) (hf : sb_Fit f) (h3 : m ≤ 64) (x : Int64) (base d sg : Nat) (h1 : 1 ≤ d) (hx : x.toInt.natAbs < 10 ^ d) (hs : sg = if x.toInt < 0 then 1 else 0) (hm : base + sg + d ≤ m) : mCt (mTb4 cs cB) yJ13_getChars_11360 cJ13_getChars_11360 11 (some .int) ⟨0, 0, 0, 0⟩ [.long x, .int (nI (base + sg + d)), .ref v] (mSb b v ml n cB m f rest) (fun v9 ws' => (∃ r : Int32, v9 = some (.int r)) ∧ ∃ f' : Nat → Int32, sb_Fit f' ∧ ws' = mSb b v ml n cB m f' rest) mNo := by
  refine mCt.of (by decide +kernel) (Nat.le_of_ble_eq_true rfl) (fun X hX hE => ?_)
  replace hX : mOK X RJ13 cJ13_getChars_11360 11 ⟨0, 0, 0, 0⟩ [] (mTb4 cs cB) := hX
  have hs2 : sg ≤ 1 := by rw [hs]; split <;> omega
  have fin : ∀ (c : Nat) (f : Nat → Int32), sg ≤ c → c ≤ m → sb_Fit f → mV X 178 [(3, some (.ref v)), (7, some (.int (nI c))), (8, some (.int (nI sg)))] [] (mSb b v ml n cB m f rest) 0 0 := by
    intro c f g1 g2 hf
    refine r_iload hX dJ13_getChars_11360_178 rfl (r_if_eq (tgt := 192) hX dJ13_getChars_11360_180 (by decide) (fun c9 => ?_) (fun c9 => ?_))
    · refine r_iload hX dJ13_getChars_11360_192 rfl ?_
      exact r_iret hX hE dJ13_getChars_11360_194 (Nat.le_of_ble_eq_true rfl) (Nat.le_of_ble_eq_true rfl) ⟨⟨_, rfl⟩, f, hf, rfl⟩
    · have g0 : 1 ≤ sg := by
        rcases Nat.eq_zero_or_pos sg with q | q
        · rw [q] at c9
          exact absurd rfl c9
        · exact q
      refine r_aload_n hX dJ13_getChars_11360_183 rfl rfl (r_iinc hX dJ13_getChars_11360_184 rfl (by decide) rfl ?_)
      rw [mpred (show 1 ≤ c by omega)]
      refine r_iload hX dJ13_getChars_11360_187 rfl (r_bipush (v := 45) hX dJ13_getChars_11360_189 (by decide +kernel) (r_bast hX 1 3 rfl rfl (vp_in_nI (n := c - 1) (N := m) (by omega) (by omega)) dJ13_getChars_11360_191 (r_iload hX dJ13_getChars_11360_192 rfl ?_)))
      exact r_iret hX hE dJ13_getChars_11360_194 (Nat.le_of_ble_eq_true rfl) (Nat.le_of_ble_eq_true rfl) ⟨⟨_, rfl⟩, _, sb_fitU hf (pk_fb _), rfl⟩
  have L2 : ∀ (g e : Nat) (w : Int32) (f : Nat → Int32), e < g → 1 ≤ e → base + sg + e ≤ m → w.toInt ≤ 0 → -w.toInt < ((10 ^ e : Nat) : Int) → sb_Fit f → mV X 86 [(3, some (.ref v)), (7, some (.int (nI (base + sg + e)))), (8, some (.int (nI sg))), (10, some (.int w))] [] (mSb b v ml n cB m f rest) 0 0 := by
    intro g
    induction g with
    | zero => intro e; omega
    | succ g ih =>
      intro e w f hg he hc hw hw2 hf
      have e100 : (-100 : Int32).toInt = -100 := by decide
      have e9 : (-9 : Int32).toInt = -9 := by decide
      refine r_iload hX dJ13_getChars_11360_86 rfl (r_bipush (v := -100) hX dJ13_getChars_11360_88 (by decide +kernel) (r_icmp_gt (tgt := 143) hX dJ13_getChars_11360_90 (by decide) (fun c9 => ?_) (fun c9 => ?_)))
      · have k1 : -100 < w.toInt := by
          have := Int32.lt_iff_toInt_lt.mp c9
          omega
        have kn : (-w).toInt = -w.toInt := by
          rw [Int32.toInt_neg]
          exact Int.bmod_eq_of_le (by omega) (by omega)
        have kin : vp_in (-w) 100 := vp_in_iff.mpr (by rw [kn]; omega)
        refine r_aload_n hX dJ13_getChars_11360_143 rfl rfl (r_iinc hX dJ13_getChars_11360_144 rfl (by decide) rfl ?_)
        rw [mpred (show 1 ≤ (base + sg + e) by omega)]
        refine r_iload hX dJ13_getChars_11360_147 rfl (r_ones hX jfl_J13_133 dJ13_getChars_11360_149 (fun t ht => ?_))
        refine r_iload hX dJ13_getChars_11360_152 rfl (r_ineg hX dJ13_getChars_11360_154 (r_tb hX ht kin dJ13_getChars_11360_155 (r_bast hX 1 3 rfl rfl (vp_in_nI (n := (base + sg + e) - 1) (N := m) (by omega) (by omega)) dJ13_getChars_11360_156 (r_iload hX dJ13_getChars_11360_157 rfl (r_bipush (v := -9) hX dJ13_getChars_11360_159 (by decide +kernel) (r_icmp_ge (tgt := 178) hX dJ13_getChars_11360_161 (by decide) (fun c8 => ?_) (fun c8 => ?_)))))))
        · exact r_loc (k' := 0) (n' := 0) (by exact ⟨rfl, rfl, rfl, trivial⟩) (Nat.le_of_ble_eq_true rfl) (Nat.le_of_ble_eq_true rfl) (fin (base + sg + e - 1) _ (by omega) (by omega) (sb_fitU hf (pk_fb _)))
        · have k2 : w.toInt < -9 := by
            have := Int32.lt_iff_toInt_lt.mp (Int32.not_le.mp c8)
            omega
          have k3 : 2 ≤ e := by
            rcases Nat.lt_or_ge e 2 with q | q
            · have q1 : e = 1 := by omega
              rw [q1] at hw2
              omega
            · exact q
          refine r_aload_n hX dJ13_getChars_11360_164 rfl rfl (r_iinc hX dJ13_getChars_11360_165 rfl (by decide) rfl ?_)
          rw [mpred (show 1 ≤ (base + sg + e - 1) by omega)]
          refine r_iload hX dJ13_getChars_11360_168 rfl (r_tens hX jfl_J13_137 dJ13_getChars_11360_170 (fun t ht => ?_))
          refine r_iload hX dJ13_getChars_11360_173 rfl (r_ineg hX dJ13_getChars_11360_175 (r_tb hX ht kin dJ13_getChars_11360_176 (r_bast hX 1 3 rfl rfl (vp_in_nI (n := (base + sg + e - 1) - 1) (N := m) (by omega) (by omega)) dJ13_getChars_11360_177 ?_)))
          exact r_loc (k' := 0) (n' := 0) (by exact ⟨rfl, rfl, rfl, trivial⟩) (Nat.le_of_ble_eq_true rfl) (Nat.le_of_ble_eq_true rfl) (fin (base + sg + e - 1 - 1) _ (by omega) (by omega) (sb_fitU (sb_fitU hf (pk_fb _)) (pk_fb _)))
      · have k1 : w.toInt ≤ -100 := by
          have := Int32.le_iff_toInt_le.mp (Int32.not_lt.mp c9)
          omega
        obtain ⟨q1, q2⟩ := mq32 hw
        obtain ⟨q3, q4⟩ := mten hw2 (by omega)
        have kin : vp_in (w / 100 * 100 - w) 100 := vp_in_iff.mpr (by rw [q2]; omega)
        refine r_iload hX dJ13_getChars_11360_93 rfl (r_bipush (v := 100) hX dJ13_getChars_11360_95 (by decide) (r_idiv hX dJ13_getChars_11360_97 (by decide) (r_istore hX dJ13_getChars_11360_98 (by decide) rfl (r_iload hX dJ13_getChars_11360_100 rfl (r_bipush (v := 100) hX dJ13_getChars_11360_102 (by decide) (r_imul hX dJ13_getChars_11360_104 (r_iload hX dJ13_getChars_11360_105 rfl ?_)))))))
        refine r_isub hX dJ13_getChars_11360_107 (r_istore hX dJ13_getChars_11360_108 (by decide) rfl (r_iload hX dJ13_getChars_11360_110 rfl (r_istore hX dJ13_getChars_11360_112 (by decide) rfl (r_aload_n hX dJ13_getChars_11360_114 rfl rfl (r_iinc hX dJ13_getChars_11360_115 rfl (by decide) rfl ?_)))))
        rw [mpred (show 1 ≤ (base + sg + e) by omega)]
        refine r_iload hX dJ13_getChars_11360_118 rfl (r_ones hX jfl_J13_133 dJ13_getChars_11360_120 (fun t ht => ?_))
        refine r_iload hX dJ13_getChars_11360_123 rfl (r_tb hX ht kin dJ13_getChars_11360_125 (r_bast hX 1 3 rfl rfl (vp_in_nI (n := (base + sg + e) - 1) (N := m) (by omega) (by omega)) dJ13_getChars_11360_126 (r_aload_n hX dJ13_getChars_11360_127 rfl rfl (r_iinc hX dJ13_getChars_11360_128 rfl (by decide) rfl ?_))))
        rw [mpred (show 1 ≤ (base + sg + e - 1) by omega)]
        refine r_iload hX dJ13_getChars_11360_131 rfl (r_tens hX jfl_J13_137 dJ13_getChars_11360_133 (fun t ht => ?_))
        refine r_iload hX dJ13_getChars_11360_136 rfl (r_tb hX ht kin dJ13_getChars_11360_138 (r_bast hX 1 3 rfl rfl (vp_in_nI (n := (base + sg + e - 1) - 1) (N := m) (by omega) (by omega)) dJ13_getChars_11360_139 (r_goto (tgt := 86) hX dJ13_getChars_11360_140 (by decide) ?_)))
        exact r_loc (k' := 0) (n' := 0) (by exact ⟨rfl, congrArg (fun z => some (Value.int (nI z))) (show base + sg + e - 1 - 1 = base + sg + (e - 2) by omega), rfl, rfl, trivial⟩) (Nat.le_of_ble_eq_true rfl) (Nat.le_of_ble_eq_true rfl) (ih (e - 2) _ _ (by omega) (by omega) (by omega) (by rw [q1]; omega) (by rw [q1]; omega) (sb_fitU (sb_fitU hf (pk_fb _)) (pk_fb _)))
  have L1 : ∀ (g e : Nat) (y : Int64) (f : Nat → Int32), e < g → 1 ≤ e → base + sg + e ≤ m → y.toInt ≤ 0 → -y.toInt < ((10 ^ e : Nat) : Int) → sb_Fit f → mV X 24 [(0, some (.long y)), (3, some (.ref v)), (7, some (.int (nI (base + sg + e)))), (8, some (.int (nI sg)))] [] (mSb b v ml n cB m f rest) 0 0 := by
    intro g
    induction g with
    | zero => intro e; omega
    | succ g ih =>
      intro e y f hg he hc hw hw2 hf
      have eM : (-2147483648 : Int64).toInt = -2147483648 := by decide
      refine r_lload_n hX dJ13_getChars_11360_24 rfl rfl (r_ldc2 hX jc_J13_129 dJ13_getChars_11360_25 (r_lcmp hX dJ13_getChars_11360_28 (r_if_gt (tgt := 82) hX dJ13_getChars_11360_29 (by decide) (fun c9 => ?_) (fun c9 => ?_))))
      · have k1 : -2147483648 < y.toInt := by
          have := Int64.lt_iff_toInt_lt.mp ((lg_cmp_gt _ _).mp c9)
          omega
        have k2 : y.toInt32.toInt = y.toInt := by
          rw [Int64.toInt_toInt32]
          exact Int.bmod_eq_of_le (by omega) (by omega)
        refine r_lload_n hX dJ13_getChars_11360_82 rfl rfl (r_l2i hX dJ13_getChars_11360_83 (r_istore hX dJ13_getChars_11360_84 (by decide) rfl ?_))
        exact r_loc (k' := 0) (n' := 0) (by exact ⟨rfl, rfl, rfl, rfl, trivial⟩) (Nat.le_of_ble_eq_true rfl) (Nat.le_of_ble_eq_true rfl) (L2 (e + 1) e _ f (by omega) he hc (by rw [k2]; exact hw) (by rw [k2]; exact hw2) hf)
      · have k1 : y.toInt ≤ -2147483648 := by
          have := Int64.le_iff_toInt_le.mp (Int64.not_lt.mp (fun q => c9 ((lg_cmp_gt _ _).mpr q)))
          omega
        obtain ⟨q1, q2⟩ := mq64 hw
        obtain ⟨q3, q4⟩ := mten hw2 (by omega)
        have kin : vp_in ((y / 100 * 100 - y).toInt32) 100 := vp_in_iff.mpr (by rw [q2]; omega)
        refine r_lload_n hX dJ13_getChars_11360_32 rfl rfl (r_ldc2 hX jc_J13_131 dJ13_getChars_11360_33 (r_ldiv hX dJ13_getChars_11360_36 (by decide) (r_lstore hX dJ13_getChars_11360_37 (by decide) rfl (r_lload hX dJ13_getChars_11360_39 rfl (r_ldc2 hX jc_J13_131 dJ13_getChars_11360_41 (r_lmul hX dJ13_getChars_11360_44 (r_lload_n hX dJ13_getChars_11360_45 rfl rfl ?_)))))))
        refine r_lsub hX dJ13_getChars_11360_46 (r_l2i hX dJ13_getChars_11360_47 (r_istore hX dJ13_getChars_11360_48 (by decide) rfl (r_lload hX dJ13_getChars_11360_50 rfl (r_lstore_n hX dJ13_getChars_11360_52 rfl (by decide) rfl (r_aload_n hX dJ13_getChars_11360_53 rfl rfl (r_iinc hX dJ13_getChars_11360_54 rfl (by decide) rfl ?_))))))
        rw [mpred (show 1 ≤ (base + sg + e) by omega)]
        refine r_iload hX dJ13_getChars_11360_57 rfl (r_ones hX jfl_J13_133 dJ13_getChars_11360_59 (fun t ht => ?_))
        refine r_iload hX dJ13_getChars_11360_62 rfl (r_tb hX ht kin dJ13_getChars_11360_64 (r_bast hX 1 3 rfl rfl (vp_in_nI (n := (base + sg + e) - 1) (N := m) (by omega) (by omega)) dJ13_getChars_11360_65 (r_aload_n hX dJ13_getChars_11360_66 rfl rfl (r_iinc hX dJ13_getChars_11360_67 rfl (by decide) rfl ?_))))
        rw [mpred (show 1 ≤ (base + sg + e - 1) by omega)]
        refine r_iload hX dJ13_getChars_11360_70 rfl (r_tens hX jfl_J13_137 dJ13_getChars_11360_72 (fun t ht => ?_))
        refine r_iload hX dJ13_getChars_11360_75 rfl (r_tb hX ht kin dJ13_getChars_11360_77 (r_bast hX 1 3 rfl rfl (vp_in_nI (n := (base + sg + e - 1) - 1) (N := m) (by omega) (by omega)) dJ13_getChars_11360_78 (r_goto (tgt := 24) hX dJ13_getChars_11360_79 (by decide) ?_)))
        exact r_loc (k' := 0) (n' := 0) (by exact ⟨rfl, rfl, congrArg (fun z => some (Value.int (nI z))) (show base + sg + e - 1 - 1 = base + sg + (e - 2) by omega), rfl, trivial⟩) (Nat.le_of_ble_eq_true rfl) (Nat.le_of_ble_eq_true rfl) (ih (e - 2) _ _ (by omega) (by omega) (by omega) (by rw [q1]; omega) (by rw [q1]; omega) (sb_fitU (sb_fitU hf (pk_fb _)) (pk_fb _)))
  refine r_iload_n hX dJ13_getChars_11360_0 rfl rfl (r_istore hX dJ13_getChars_11360_1 (by decide) rfl (r_lload_n hX dJ13_getChars_11360_3 rfl rfl (r_lconst (v := 0) hX dJ13_getChars_11360_4 (by decide) (r_lcmp hX dJ13_getChars_11360_5 (r_if_ge (tgt := 13) hX dJ13_getChars_11360_6 (by decide) (fun c9 => ?_) (fun c9 => ?_))))))
  · have h0 : 0 ≤ x.toInt := by simpa using Int64.le_iff_toInt_le.mp ((lg_cmp_ge _ _).mp c9)
    have hsg : sg = 0 := by rw [hs]; exact if_neg (by omega)
    have hb2 := Int64.toInt_lt x
    have kn : (-x).toInt = -x.toInt := by
      rw [Int64.toInt_neg]
      exact Int.bmod_eq_of_le (by omega) (by omega)
    refine r_iconst (v := 0) hX dJ13_getChars_11360_13 (by decide) (r_istore hX dJ13_getChars_11360_14 (by decide) rfl (r_iload hX dJ13_getChars_11360_16 rfl (r_if_ne (tgt := 24) hX dJ13_getChars_11360_18 (by decide) (fun c8 => absurd rfl c8) (fun _ => ?_))))
    refine r_lload_n hX dJ13_getChars_11360_21 rfl rfl (r_lneg hX dJ13_getChars_11360_22 (r_lstore_n hX dJ13_getChars_11360_23 rfl (by decide) rfl ?_))
    exact r_loc (k' := 0) (n' := 0) (by exact ⟨rfl, rfl, rfl, congrArg (fun z => some (Value.int (nI z))) hsg.symm, trivial⟩) (Nat.le_of_ble_eq_true rfl) (Nat.le_of_ble_eq_true rfl) (L1 (d + 1) d _ f (by omega) h1 hm (by rw [kn]; omega) (by rw [kn]; omega) hf)
  · have h0 : x.toInt < 0 := by
      have := Int64.lt_iff_toInt_lt.mp (Int64.not_le.mp (fun q => c9 ((lg_cmp_ge _ _).mpr q)))
      simpa using this
    have hsg : sg = 1 := by rw [hs]; exact if_pos h0
    refine r_iconst (v := 1) hX dJ13_getChars_11360_9 (by decide) (r_goto (tgt := 14) hX dJ13_getChars_11360_10 (by decide) (r_istore hX dJ13_getChars_11360_14 (by decide) rfl (r_iload hX dJ13_getChars_11360_16 rfl (r_if_ne (tgt := 24) hX dJ13_getChars_11360_18 (by decide) (fun _ => ?_) (fun c8 => absurd c8 (by decide))))))
    exact r_loc (k' := 0) (n' := 0) (by exact ⟨rfl, rfl, rfl, congrArg (fun z => some (Value.int (nI z))) hsg.symm, trivial⟩) (Nat.le_of_ble_eq_true rfl) (Nat.le_of_ble_eq_true rfl) (L1 (d + 1) d _ f (by omega) h1 hm (by omega) (by omega) hf)
end
-- 43 jdk
section
/-! append(long), the reference's millis. (Rows by a program of this repository.) -/
set_option maxHeartbeats 1000000 in
theorem c_asbAppendJ (cs : ClassId × ClassId × ClassId) (cB : ClassId) (b v : Nat) (ml : Int32) (n m : Nat) (f : Nat → Int32) (rest : va_W) (x : Int64) (hf : sb_Fit f) (h2 : n + 20 ≤ 2 * m + 2) (h3 : m ≤ 31) : mCt (mTb4 cs cB) yJ5_append_66267 cJ5_append_66267 5 (some (.object "java/lang/AbstractStringBuilder")) ⟨4, 1, 64, 170⟩ [.ref b, .long x] (mSb b v ml n cB m f rest) (fun v9 ws' => v9 = some (.ref b) ∧ ∃ (v' n' m' : Nat) (f' : Nat → Int32), sb_Fit f' ∧ n' ≤ m' ∧ m' ≤ 64 ∧ ws' = mSb b v' ml n' cB m' f' rest) mNo := by
  refine mCt.of (by decide +kernel) (Nat.le_of_ble_eq_true rfl) (fun X hX hE => ?_)
  replace hX : mOK X RJ5 cJ5_append_66267 5 ⟨4, 1, 64, 170⟩ [] (mTb4 cs cB) := hX
  refine r_aload_n hX dJ5_append_66267_0 rfl rfl (r_get hX jf_J5_79 0 rfl rfl dJ5_append_66267_1 (r_istore_n hX dJ5_append_66267_4 rfl (by decide) rfl (r_iload_n hX dJ5_append_66267_5 rfl rfl (r_lload_n hX dJ5_append_66267_6 rfl rfl (r_callS hX (c_stringSize _ _ x) js_J5_254 rfl rfl (Nat.le_of_ble_eq_true rfl) ⟨(Nat.le_of_ble_eq_true rfl), (Nat.le_of_ble_eq_true rfl)⟩ ⟨(Nat.le_of_ble_eq_true rfl), (Nat.le_of_ble_eq_true rfl)⟩ dJ5_append_66267_7 (fun _ _ z => False.elim z) (fun v9 ws9 h9 => ?_))))))
  obtain ⟨d, g1, g2, g3, rfl, hw9⟩ := h9
  subst ws9
  dsimp only [mPush]
  have hs2 : (if x.toInt < 0 then 1 else 0 : Nat) ≤ 1 := by split <;> omega
  generalize hsg : (if x.toInt < 0 then 1 else 0 : Nat) = sg at hs2 ⊢
  refine r_iadd hX dJ5_append_66267_10 ?_
  rw [nI_add, show n + (d + sg) = n + sg + d by omega]
  refine r_istore hX dJ5_append_66267_11 (by decide) rfl (r_aload_n hX dJ5_append_66267_13 rfl rfl (r_iload hX dJ5_append_66267_14 rfl (r_callU hX mGT_h (c_ensure cs cB b v ml n m (n + sg + d) f rest hf (Or.inr ⟨by omega, h3⟩) (by omega)).ofg ju_J5_100 (as := [.int (nI (n + sg + d))]) 0 rfl (show vwCl[1]? = _ from rfl) rfl rfl (Nat.le_of_ble_eq_true rfl) ⟨(Nat.le_of_ble_eq_true rfl), (Nat.le_of_ble_eq_true rfl)⟩ ⟨(Nat.le_of_ble_eq_true rfl), (Nat.le_of_ble_eq_true rfl)⟩ dJ5_append_66267_16 (fun v9 ws9 h8 => ?_))))
  obtain ⟨rfl, v1, f1, hf1, hw9⟩ := h8
  subst ws9
  dsimp only [mPush]
  have hm1 : n + sg + d ≤ (if n + sg + d ≤ m then m else 2 * m + 2) ∧ (if n + sg + d ≤ m then m else 2 * m + 2) ≤ 64 := by split <;> omega
  generalize (if n + sg + d ≤ m then m else 2 * m + 2) = m1 at hm1 ⊢
  refine r_aload_n hX dJ5_append_66267_19 rfl rfl (r_callU hX mGT_h (c_isLatin1 _ _ 0 b _ _ _ rfl).ofg ju_J5_83 0 rfl (show vwCl[1]? = _ from rfl) rfl rfl (Nat.le_of_ble_eq_true rfl) ⟨(Nat.le_of_ble_eq_true rfl), (Nat.le_of_ble_eq_true rfl)⟩ ⟨(Nat.le_of_ble_eq_true rfl), (Nat.le_of_ble_eq_true rfl)⟩ dJ5_append_66267_20 (fun v9 ws9 h8 => ?_))
  obtain ⟨rfl, hw9⟩ := h8
  subst ws9
  dsimp only [mPush]
  refine r_if_eq (tgt := 40) hX dJ5_append_66267_23 (by decide) (fun c9 => absurd c9 (by decide)) (fun _ => ?_)
  refine r_lload_n hX dJ5_append_66267_26 rfl rfl (r_iload hX dJ5_append_66267_27 rfl (r_aload_n hX dJ5_append_66267_29 rfl rfl (r_get hX jf_J5_15 0 rfl rfl dJ5_append_66267_30 (r_callS hX (c_getChars cs cB b v1 ml n m1 f1 rest hf1 hm1.2 x n d sg g1 g3 hsg.symm hm1.1) js_J5_259 rfl rfl (Nat.le_of_ble_eq_true rfl) ⟨(Nat.le_of_ble_eq_true rfl), (Nat.le_of_ble_eq_true rfl)⟩ ⟨(Nat.le_of_ble_eq_true rfl), (Nat.le_of_ble_eq_true rfl)⟩ dJ5_append_66267_33 (fun _ _ z => False.elim z) (fun v9 ws9 h8 => ?_)))))
  obtain ⟨⟨r, rfl⟩, f2, hf2, hw9⟩ := h8
  subst ws9
  dsimp only [mPush]
  refine r_pop hX dJ5_append_66267_36 rfl (r_goto (tgt := 52) hX dJ5_append_66267_37 (by decide) (r_aload_n hX dJ5_append_66267_52 rfl rfl (r_iload hX dJ5_append_66267_53 rfl (r_put hX jf_J5_79 0 rfl rfl rfl rfl (Nat.le_of_ble_eq_true rfl) dJ5_append_66267_55 (r_aload_n hX dJ5_append_66267_58 rfl rfl ?_)))))
  exact r_aret hX hE dJ5_append_66267_59 (Or.inl ⟨_, rfl⟩) (Or.inr ⟨_, rfl⟩) (Nat.le_of_ble_eq_true rfl) (Nat.le_of_ble_eq_true rfl) ⟨rfl, v1, n + sg + d, m1, f2, hf2, hm1.1, hm1.2, rfl⟩
set_option maxHeartbeats 1000000 in
theorem c_sbAppendJ (cs : ClassId × ClassId × ClassId) (cB : ClassId) (b v : Nat) (ml : Int32) (n m : Nat) (f : Nat → Int32) (rest : va_W) (x : Int64) (hf : sb_Fit f) (h2 : n + 20 ≤ 2 * m + 2) (h3 : m ≤ 31) : mCt (mTb4 cs cB) yJ4_append_f7089 cJ4_append_f7089 3 (some (.object "java/lang/StringBuilder")) ⟨5, 1, 64, 200⟩ [.ref b, .long x] (mSb b v ml n cB m f rest) (fun v9 ws' => v9 = some (.ref b) ∧ ∃ (v' n' m' : Nat) (f' : Nat → Int32), sb_Fit f' ∧ n' ≤ m' ∧ m' ≤ 64 ∧ ws' = mSb b v' ml n' cB m' f' rest) mNo := by
  refine mCt.of (by decide +kernel) (Nat.le_of_ble_eq_true rfl) (fun X hX hE => ?_)
  replace hX : mOK X RJ4 cJ4_append_f7089 3 ⟨5, 1, 64, 200⟩ [] (mTb4 cs cB) := hX
  refine r_aload_n hX dJ4_append_f7089_0 rfl rfl (r_lload_n hX dJ4_append_f7089_1 rfl rfl (r_callSU hX mGT_h (c_asbAppendJ cs cB b v ml n m f rest x hf h2 h3).ofg jsu_J4_56 (as := [.long x]) 0 rfl (show vwCl[1]? = _ from rfl) rfl rfl (Nat.le_of_ble_eq_true rfl) ⟨(Nat.le_of_ble_eq_true rfl), (Nat.le_of_ble_eq_true rfl)⟩ ⟨(Nat.le_of_ble_eq_true rfl), (Nat.le_of_ble_eq_true rfl)⟩ dJ4_append_f7089_2 (fun v9 ws9 h8 => ?_)))
  obtain ⟨rfl, v1, n1, m1, f1, hf1, k1, k2, hw9⟩ := h8
  subst ws9
  dsimp only [mPush]
  refine r_pop hX dJ4_append_f7089_5 rfl (r_aload_n hX dJ4_append_f7089_6 rfl rfl ?_)
  exact r_aret hX hE dJ4_append_f7089_7 (Or.inl ⟨_, rfl⟩) (Or.inr ⟨_, rfl⟩) (Nat.le_of_ble_eq_true rfl) (Nat.le_of_ble_eq_true rfl) ⟨rfl, v1, n1, m1, f1, hf1, k1, k2, rfl⟩
theorem dX4_millis_v0 : (cX4_millis.data.toList.drop 0).take 16 = [42, 27, 184, 0, 61, 3, 182, 0, 68, 153, 0, 8, 18, 119, 167, 0] := by decide +kernel
theorem dX4_millis_v1 : (cX4_millis.data.toList.drop 16).take 16 = [33, 187, 0, 121, 89, 183, 0, 123, 18, 119, 182, 0, 124, 42, 180, 0] := by decide +kernel
theorem dX4_millis_v2 : (cX4_millis.data.toList.drop 32).take 16 = [13, 27, 47, 20, 0, 111, 184, 0, 92, 182, 0, 128, 182, 0, 131, 176] := by decide +kernel
theorem dX4_millis_0 : decode cX4_millis 0 = .ok (.aload_n 0, 1) := dk_42 (dq_lk dX4_millis_v0 (r := 0) (x := 42) rfl)
theorem dX4_millis_1 : decode cX4_millis 1 = .ok (.iload_n 1, 1) := dk_27 (dq_lk dX4_millis_v0 (r := 1) (x := 27) rfl)
theorem dX4_millis_2 : decode cX4_millis 2 = .ok (.invokestatic 61, 3) := dk_184 (dq_lk dX4_millis_v0 (r := 2) (x := 184) rfl) (dq_lk dX4_millis_v0 (r := 3) (x := 0) rfl) (dq_lk dX4_millis_v0 (r := 4) (x := 61) rfl)
theorem dX4_millis_5 : decode cX4_millis 5 = .ok (.iconst 0, 1) := dk_3 (dq_lk dX4_millis_v0 (r := 5) (x := 3) rfl)
theorem dX4_millis_6 : decode cX4_millis 6 = .ok (.invokevirtual 68, 3) := dk_182 (dq_lk dX4_millis_v0 (r := 6) (x := 182) rfl) (dq_lk dX4_millis_v0 (r := 7) (x := 0) rfl) (dq_lk dX4_millis_v0 (r := 8) (x := 68) rfl)
theorem dX4_millis_9 : decode cX4_millis 9 = .ok (.ifCond .eq 8, 3) := dk_153 (dq_lk dX4_millis_v0 (r := 9) (x := 153) rfl) (dq_lk dX4_millis_v0 (r := 10) (x := 0) rfl) (dq_lk dX4_millis_v0 (r := 11) (x := 8) rfl) (by decide +kernel)
theorem dX4_millis_12 : decode cX4_millis 12 = .ok (.ldc 119, 2) := dk_18 (dq_lk dX4_millis_v0 (r := 12) (x := 18) rfl) (dq_lk dX4_millis_v0 (r := 13) (x := 119) rfl)
theorem dX4_millis_14 : decode cX4_millis 14 = .ok (.goto 33, 3) := dk_167 (dq_lk dX4_millis_v0 (r := 14) (x := 167) rfl) (dq_lk dX4_millis_v0 (r := 15) (x := 0) rfl) (dq_lk dX4_millis_v1 (r := 0) (x := 33) rfl) (by decide +kernel)
theorem dX4_millis_17 : decode cX4_millis 17 = .ok (.new 121, 3) := dk_187 (dq_lk dX4_millis_v1 (r := 1) (x := 187) rfl) (dq_lk dX4_millis_v1 (r := 2) (x := 0) rfl) (dq_lk dX4_millis_v1 (r := 3) (x := 121) rfl)
theorem dX4_millis_20 : decode cX4_millis 20 = .ok (.dup, 1) := dk_89 (dq_lk dX4_millis_v1 (r := 4) (x := 89) rfl)
theorem dX4_millis_21 : decode cX4_millis 21 = .ok (.invokespecial 123, 3) := dk_183 (dq_lk dX4_millis_v1 (r := 5) (x := 183) rfl) (dq_lk dX4_millis_v1 (r := 6) (x := 0) rfl) (dq_lk dX4_millis_v1 (r := 7) (x := 123) rfl)
theorem dX4_millis_24 : decode cX4_millis 24 = .ok (.ldc 119, 2) := dk_18 (dq_lk dX4_millis_v1 (r := 8) (x := 18) rfl) (dq_lk dX4_millis_v1 (r := 9) (x := 119) rfl)
theorem dX4_millis_26 : decode cX4_millis 26 = .ok (.invokevirtual 124, 3) := dk_182 (dq_lk dX4_millis_v1 (r := 10) (x := 182) rfl) (dq_lk dX4_millis_v1 (r := 11) (x := 0) rfl) (dq_lk dX4_millis_v1 (r := 12) (x := 124) rfl)
theorem dX4_millis_29 : decode cX4_millis 29 = .ok (.aload_n 0, 1) := dk_42 (dq_lk dX4_millis_v1 (r := 13) (x := 42) rfl)
theorem dX4_millis_30 : decode cX4_millis 30 = .ok (.getfield 13, 3) := dk_180 (dq_lk dX4_millis_v1 (r := 14) (x := 180) rfl) (dq_lk dX4_millis_v1 (r := 15) (x := 0) rfl) (dq_lk dX4_millis_v2 (r := 0) (x := 13) rfl)
theorem dX4_millis_33 : decode cX4_millis 33 = .ok (.iload_n 1, 1) := dk_27 (dq_lk dX4_millis_v2 (r := 1) (x := 27) rfl)
theorem dX4_millis_34 : decode cX4_millis 34 = .ok (.laload, 1) := dk_47 (dq_lk dX4_millis_v2 (r := 2) (x := 47) rfl)
theorem dX4_millis_35 : decode cX4_millis 35 = .ok (.ldc2_w 111, 3) := dk_20 (dq_lk dX4_millis_v2 (r := 3) (x := 20) rfl) (dq_lk dX4_millis_v2 (r := 4) (x := 0) rfl) (dq_lk dX4_millis_v2 (r := 5) (x := 111) rfl)
theorem dX4_millis_38 : decode cX4_millis 38 = .ok (.invokestatic 92, 3) := dk_184 (dq_lk dX4_millis_v2 (r := 6) (x := 184) rfl) (dq_lk dX4_millis_v2 (r := 7) (x := 0) rfl) (dq_lk dX4_millis_v2 (r := 8) (x := 92) rfl)
theorem dX4_millis_41 : decode cX4_millis 41 = .ok (.invokevirtual 128, 3) := dk_182 (dq_lk dX4_millis_v2 (r := 9) (x := 182) rfl) (dq_lk dX4_millis_v2 (r := 10) (x := 0) rfl) (dq_lk dX4_millis_v2 (r := 11) (x := 128) rfl)
theorem dX4_millis_44 : decode cX4_millis 44 = .ok (.invokevirtual 131, 3) := dk_182 (dq_lk dX4_millis_v2 (r := 12) (x := 182) rfl) (dq_lk dX4_millis_v2 (r := 13) (x := 0) rfl) (dq_lk dX4_millis_v2 (r := 14) (x := 131) rfl)
theorem dX4_millis_47 : decode cX4_millis 47 = .ok (.areturn, 1) := dk_176 (dq_lk dX4_millis_v2 (r := 15) (x := 176) rfl)
end
-- 44 catch
section
/-! Methods with handlers. (Own work.) -/
theorem kca_I : (Cond.castable xI xI) ∈ mW := mW_at 163 (by decide +kernel) (by decide +kernel)
theorem kca_A : (Cond.castable xA xA) ∈ mW := mW_at 395 (by decide +kernel) (by decide +kernel)
/-- a bad number isn't caught as a bad place -/
def mNc : (Nat → Prop) → State → Prop := fun _ U => va_Nc xA xI U
theorem mNc_s : mGs mNc := ⟨fun A U U' hv _ h => va_Nc.moved (by rw [hv]; exact Vm.Alike.refl _) h, fun A s U hW _ h => va_Nc.moved hW.alike h⟩
def mCw (tys : List (ClassId × FieldType)) (y : MethodName) (cc : ByteArray) (nL : Nat) (ret : Option FieldType) (hh : List (Nat × Nat × Nat × Nat)) (rm : Room) (as : List Value) (ws : va_W) (Φ : Option Value → va_W → Prop) : Prop :=
  ∀ (l : Launch) (D : va_G) (A : Nat → Prop), l.stackTraces = false → vx_Met l y (Cond.codeWith y cc nL ret hh :: mW) rm (va_Pc as (fun U => mU D tys A ws U ∧ mNc A U)) (mQ Φ D A) (mX mNo D A) rm.cells rm.slots A
theorem mCw.of {tys : List (ClassId × FieldType)} {y : MethodName} {cc : ByteArray} {nL : Nat} {ret : Option FieldType} {hh : List (Nat × Nat × Nat × Nat)} {rm : Room} {as : List Value} {ws : va_W} {Φ : Option Value → va_W → Prop} (hy : plainName y.cls = true) (hlen : (lg_sl as).length ≤ nL)
    (body : ∀ X, mOK X y.cls cc nL rm hh tys → mHas X mNc → mE X Φ mNo ret rm.cells rm.slots → mV X 0 (mlv as) [] ws 0 0) : mCw tys y cc nL ret hh rm as ws Φ := by
  intro l D A hst
  refine vx_ofWH (cc := cc) (maxL := nL) (ret := ret) (hh := hh) hy rfl ?_
  intro p e s m args below meth c s₁ B hml hv
  obtain ⟨rfl, ⟨hP, hD, hK, hA, hs⟩, hg⟩ := hv
  have hts := atoms_spec (ws := Cond.codeWith y cc nL ret hh :: mW) B.pre
  have htab : c.exceptionTable.toList = tableOf hh := vx_table (x := y) B (hts _ List.mem_cons_self)
  have h0 := body (p, l, e, _, s, m, _, below, meth, c, _, D, tys, A) ⟨B.exec, B.bytes, hml, rfl, findClass_of_methodNamed B.named, fun w hw => hts w (List.mem_cons_of_mem _ hw), hK, rfl, B.notSynchronized, hA, hs, hst, htab⟩ hg ⟨B.returns, rfl⟩
  have hl := lv_entry as hlen
  rw [lg_entry_eq]
  exact h0 s.heap [] _ hP hD va_S.rf ⟨hl.1.trans hml.symm, hl.2.1, fun i v h => hl.2.2 (i, v) (lget_mem h)⟩
section MCATCH
variable {X : mC} {own : String} {cc : ByteArray} {nL : Nat} {R : Room} {tys : List (ClassId × FieldType)} {pc : Nat} {lv : List (Nat × Option Value)} {st : List Value} {ws : va_W} {k n : Nat}
theorem r_catch1 {a1 a2 a3 a4 : Nat} {suf : List (Nat × Nat × Nat × Nat)} {E : String} (hX : mOK X own cc nL R ((a1, a2, a3, a4) :: suf) tys) (hx : covers ⟨a1, a2, a3, a4⟩ pc = true) (h0 : a4 ≠ 0) (hlink : Cond.classLink own a4 E ∈ mW) (hcast : Cond.castable E E ∈ mW) (kk : ∀ q, mV X a3 lv [.ref q] ws k n) : mT X pc lv st ws k n E := by
  obtain ⟨p, l, e, R', s, m, args, below, meth, c, Q, D, tys', A⟩ := X
  obtain ⟨hx0, hb, hml, hR, hown, hts, hK, hty, hlk, hA, hst, hlt, htab⟩ := hX
  exact fun H locs ls q ce hP hD hS hl hq hv hcl => vx_catch hown [] ⟨a1, a2, a3, a4⟩ (tableOf suf) (by rw [htab]; rfl) (fun z hz => nomatch hz) hx h0 (hts _ hlink) (hts _ hcast) hq hv hcl (kk q H locs ls hP hD hS hl)
theorem r_catch2 {b1 b2 b3 b4 a1 a2 a3 a4 : Nat} {suf : List (Nat × Nat × Nat × Nat)} (hX : mOK X own cc nL R ((b1, b2, b3, b4) :: (a1, a2, a3, a4) :: suf) tys) (hg : mHas X mNc) (hb0 : b4 ≠ 0) (hbl : Cond.classLink own b4 xI ∈ mW) (hx : covers ⟨a1, a2, a3, a4⟩ pc = true) (h0 : a4 ≠ 0) (hlink : Cond.classLink own a4 xA ∈ mW) (kk : ∀ q, mV X a3 lv [.ref q] ws k n) : mT X pc lv st ws k n xA := by
  obtain ⟨p, l, e, R', s, m, args, below, meth, c, Q, D, tys', A⟩ := X
  obtain ⟨hx0, hb, hml, hR, hown, hts, hK, hty, hlk, hA, hst, hlt, htab⟩ := hX
  exact fun H locs ls q ce hP hD hS hl hq hv hcl => vx_catch hown [⟨b1, b2, b3, b4⟩] ⟨a1, a2, a3, a4⟩ (tableOf suf) (by rw [htab]; rfl) (fun z hz => by
    rw [List.mem_singleton.mp hz]
    exact Or.inr ⟨hb0, xI, hts _ hbl, hg⟩) hx h0 (hts _ hlink) (hts _ kca_A) hq hv hcl (kk q H locs ls hP hD hS hl)
theorem r_callW {hh hh2 : List (Nat × Nat × Nat × Nat)} {y : MethodName} {b : ByteArray} {nL2 idx cnt : Nat} {ret2 : Option FieldType} {rm : Room} {as rest : List Value} {Φ2 : Option Value → va_W → Prop} (hX : mOK X own cc nL R hh tys) (hg : mHas X mNc) (hc : mCw tys y b nL2 ret2 hh2 rm as ws Φ2) (hw : mWH own idx y b nL2 ret2 hh2 cnt) (hst0 : st = as.reverse ++ rest) (hlen : as.length = cnt) (hro : (rest.map fun v => v.category).sum ≤ 8) (hrm : rm.frames + 1 ≤ R.frames ∧ 8 + (nL2 + 11) + rm.locals ≤ R.locals) (hce : k + rm.cells ≤ R.cells ∧ n + rm.slots ≤ R.slots) (hd : decode cc pc = .ok (.invokestatic idx, 3)) (kk : ∀ v ws', Φ2 v ws' → mV X (pc + 3) lv (mPush v rest) ws' (k + rm.cells) (n + rm.slots)) : mV X pc lv st ws k n := by
  obtain ⟨p, l, e, R', s, m, args, below, meth, c, Q, D, tys', A⟩ := X
  obtain ⟨hx, hb, hml, hR, hown, hts, hK, hty, hlk, hA, hst, hlt, htab⟩ := hX
  obtain ⟨w1, w2, w3, w4, w5, w6⟩ := hw
  subst hR
  have hwords : ∀ w ∈ Cond.codeWith y b nL2 ret2 hh2 :: mW, ∀ (a' : Array Value) (U : State), s.WarmedH U.vm → w.before a' U = true := by
    intro w hw a' U hW
    rcases List.mem_cons.mp hw with rfl | h
    · exact mwords hts w4 a' U hW
    · exact mwords hts h a' U hW
  have hbl : FrameBlind (va_Pc as (fun U => mU D tys A ws U ∧ mNc A U)) := mG_blind mNc_s
  intro H locs ls hP hD hS hl
  have hrun := vx_runSW (own := own) (index := idx) (cells := k) (slots := n) (locs := locs) (e := e) (below := below) (meth := meth) (rest := rest) (g := F0 m pc ls st) ⟨hx, hb, hml, hown, hts⟩ (mMet (hc l D A hlt) (fun E st t h => by obtain ⟨_, h, _⟩ := h; exact h)) ⟨⟨rfl, rfl, hrm.1, hrm.2, hwords, List.mem_cons_self⟩, hts _ w4, hts _ w3, w5, mCount w6, hts _ w1, hts _ w2⟩ ⟨hbl, fun U hU hW => ⟨rfl, mG_at mNc_s hg hP hD hS hK hA hst hU hW⟩⟩ rfl hlen (hl.1.trans hml) hst0 (lv_room hro) hd hce
  intro T hT Y
  obtain ⟨v, st₀, t, T', L, h0, Y', hL, e1, e2, ⟨v', ws', hv, hp, hP', hD', hF⟩, stp⟩ := hrun T hT Y
  cases hv
  obtain ⟨-, -, k3⟩ := vx_keep h0 e1 hS (fun _ _ h => h) (fun _ h => h) hL hF
  obtain ⟨t2, a1, b1⟩ := kk v ws' hp T'.heap (locs ++ L) ls (by rw [e1]; exact hP') hD' k3 hl T' rfl Y'
  rw [← mPush_eq] at a1
  exact ⟨t2, stp t2 a1, b1⟩
end MCATCH
end
