/-! Methods with handlers. (Own work.) -/
theorem kca_I : (Cond.castable xI xI) ∈ mW := mW_at 163 (by decide +kernel) (by decide +kernel)
theorem kca_A : (Cond.castable xA xA) ∈ mW := mW_at 395 (by decide +kernel) (by decide +kernel)
/-- a bad number isn't caught as a bad place -/
def mNc : (Nat → Prop) → State → Prop := fun _ U => va_Nc xA xI U
theorem mNc_s : mGs mNc := ⟨fun A U U' hv _ h => va_Nc.moved (by rw [hv]; exact Vm.Alike.refl _) h, fun A s U hW _ h => va_Nc.moved hW.alike h⟩
def mCw (tys : List (ClassId × FieldType)) (y : MethodName) (cc : ByteArray) (nL : Nat) (ret : Option FieldType) (hh : List (Nat × Nat × Nat × Nat)) (rm : Room) (as : List Value) (ws : va_W) (Φ : Option Value → va_W → Prop) : Prop :=
  ∀ (l : Launch) (D : va_G) (A : Nat → Prop), l.stackTraces = false → vx_Met l y (Cond.codeWith y cc nL ret hh :: mW) rm (va_Pc as (fun U => mU D tys A ws U ∧ mNc A U)) (mQ Φ D A) (mX mNo D A) rm.cells rm.slots A
theorem mCw.of {tys : List (ClassId × FieldType)} {y : MethodName} {cc : ByteArray} {nL : Nat} {ret : Option FieldType} {hh : List (Nat × Nat × Nat × Nat)} {rm : Room} {as : List Value} {ws : va_W} {Φ : Option Value → va_W → Prop} (hy : plainName y.cls = true) (hlen : (lg_sl as).length ≤ nL)
    (body : ∀ X, mOK X y.cls cc nL rm hh tys → mHas X mNc → mE X Φ mNo ret rm.cells rm.slots → mV X 0 (mlv as) [] ws 0 0) : mCw tys y cc nL ret hh rm as ws Φ := by
  intro l D A hst
  refine vx_ofWH (cc := cc) (maxL := nL) (ret := ret) (hh := hh) hy rfl ?_
  intro p e s m args below meth c s₁ B hml hv
  obtain ⟨rfl, ⟨hP, hD, hK, hA, hs⟩, hg⟩ := hv
  have hts := atoms_spec (ws := Cond.codeWith y cc nL ret hh :: mW) B.pre
  have htab : c.exceptionTable.toList = tableOf hh := vx_table (x := y) B (hts _ List.mem_cons_self)
  have h0 := body (p, l, e, _, s, m, _, below, meth, c, _, D, tys, A) ⟨B.exec, B.bytes, hml, rfl, findClass_of_methodNamed B.named, fun w hw => hts w (List.mem_cons_of_mem _ hw), hK, rfl, B.notSynchronized, hA, hs, hst, htab⟩ hg ⟨B.returns, rfl⟩
  have hl := lv_entry as hlen
  rw [lg_entry_eq]
  exact h0 s.heap [] _ hP hD va_S.rf ⟨hl.1.trans hml.symm, hl.2.1, fun i v h => hl.2.2 (i, v) (lget_mem h)⟩
section MCATCH
variable {X : mC} {own : String} {cc : ByteArray} {nL : Nat} {R : Room} {tys : List (ClassId × FieldType)} {pc : Nat} {lv : List (Nat × Option Value)} {st : List Value} {ws : va_W} {k n : Nat}
theorem r_catch1 {a1 a2 a3 a4 : Nat} {suf : List (Nat × Nat × Nat × Nat)} {E : String} (hX : mOK X own cc nL R ((a1, a2, a3, a4) :: suf) tys) (hx : covers ⟨a1, a2, a3, a4⟩ pc = true) (h0 : a4 ≠ 0) (hlink : Cond.classLink own a4 E ∈ mW) (hcast : Cond.castable E E ∈ mW) (kk : ∀ q, mV X a3 lv [.ref q] ws k n) : mT X pc lv st ws k n E := by
  obtain ⟨p, l, e, R', s, m, args, below, meth, c, Q, D, tys', A⟩ := X
  obtain ⟨hx0, hb, hml, hR, hown, hts, hK, hty, hlk, hA, hst, hlt, htab⟩ := hX
  exact fun H locs ls q ce hP hD hS hl hq hv hcl => vx_catch hown [] ⟨a1, a2, a3, a4⟩ (tableOf suf) (by rw [htab]; rfl) (fun z hz => nomatch hz) hx h0 (hts _ hlink) (hts _ hcast) hq hv hcl (kk q H locs ls hP hD hS hl)
theorem r_catch2 {b1 b2 b3 b4 a1 a2 a3 a4 : Nat} {suf : List (Nat × Nat × Nat × Nat)} (hX : mOK X own cc nL R ((b1, b2, b3, b4) :: (a1, a2, a3, a4) :: suf) tys) (hg : mHas X mNc) (hb0 : b4 ≠ 0) (hbl : Cond.classLink own b4 xI ∈ mW) (hx : covers ⟨a1, a2, a3, a4⟩ pc = true) (h0 : a4 ≠ 0) (hlink : Cond.classLink own a4 xA ∈ mW) (kk : ∀ q, mV X a3 lv [.ref q] ws k n) : mT X pc lv st ws k n xA := by
  obtain ⟨p, l, e, R', s, m, args, below, meth, c, Q, D, tys', A⟩ := X
  obtain ⟨hx0, hb, hml, hR, hown, hts, hK, hty, hlk, hA, hst, hlt, htab⟩ := hX
  exact fun H locs ls q ce hP hD hS hl hq hv hcl => vx_catch hown [⟨b1, b2, b3, b4⟩] ⟨a1, a2, a3, a4⟩ (tableOf suf) (by rw [htab]; rfl) (fun z hz => by
    rw [List.mem_singleton.mp hz]
    exact Or.inr ⟨hb0, xI, hts _ hbl, hg⟩) hx h0 (hts _ hlink) (hts _ kca_A) hq hv hcl (kk q H locs ls hP hD hS hl)
theorem r_callW {hh hh2 : List (Nat × Nat × Nat × Nat)} {y : MethodName} {b : ByteArray} {nL2 idx cnt : Nat} {ret2 : Option FieldType} {rm : Room} {as rest : List Value} {Φ2 : Option Value → va_W → Prop} (hX : mOK X own cc nL R hh tys) (hg : mHas X mNc) (hc : mCw tys y b nL2 ret2 hh2 rm as ws Φ2) (hw : mWH own idx y b nL2 ret2 hh2 cnt) (hst0 : st = as.reverse ++ rest) (hlen : as.length = cnt) (hro : (rest.map fun v => v.category).sum ≤ 8) (hrm : rm.frames + 1 ≤ R.frames ∧ 8 + (nL2 + 11) + rm.locals ≤ R.locals) (hce : k + rm.cells ≤ R.cells ∧ n + rm.slots ≤ R.slots) (hd : decode cc pc = .ok (.invokestatic idx, 3)) (kk : ∀ v ws', Φ2 v ws' → mV X (pc + 3) lv (mPush v rest) ws' (k + rm.cells) (n + rm.slots)) : mV X pc lv st ws k n := by
  obtain ⟨p, l, e, R', s, m, args, below, meth, c, Q, D, tys', A⟩ := X
  obtain ⟨hx, hb, hml, hR, hown, hts, hK, hty, hlk, hA, hst, hlt, htab⟩ := hX
  obtain ⟨w1, w2, w3, w4, w5, w6⟩ := hw
  subst hR
  have hwords : ∀ w ∈ Cond.codeWith y b nL2 ret2 hh2 :: mW, ∀ (a' : Array Value) (U : State), s.WarmedH U.vm → w.before a' U = true := by
    intro w hw a' U hW
    rcases List.mem_cons.mp hw with rfl | h
    · exact mwords hts w4 a' U hW
    · exact mwords hts h a' U hW
  have hbl : FrameBlind (va_Pc as (fun U => mU D tys A ws U ∧ mNc A U)) := mG_blind mNc_s
  intro H locs ls hP hD hS hl
  have hrun := vx_runSW (own := own) (index := idx) (cells := k) (slots := n) (locs := locs) (e := e) (below := below) (meth := meth) (rest := rest) (g := F0 m pc ls st) ⟨hx, hb, hml, hown, hts⟩ (mMet (hc l D A hlt) (fun E st t h => by obtain ⟨_, h, _⟩ := h; exact h)) ⟨⟨rfl, rfl, hrm.1, hrm.2, hwords, List.mem_cons_self⟩, hts _ w4, hts _ w3, w5, mCount w6, hts _ w1, hts _ w2⟩ ⟨hbl, fun U hU hW => ⟨rfl, mG_at mNc_s hg hP hD hS hK hA hst hU hW⟩⟩ rfl hlen (hl.1.trans hml) hst0 (lv_room hro) hd hce
  intro T hT Y
  obtain ⟨v, st₀, t, T', L, h0, Y', hL, e1, e2, ⟨v', ws', hv, hp, hP', hD', hF⟩, stp⟩ := hrun T hT Y
  cases hv
  obtain ⟨-, -, k3⟩ := vx_keep h0 e1 hS (fun _ _ h => h) (fun _ h => h) hL hF
  obtain ⟨t2, a1, b1⟩ := kk v ws' hp T'.heap (locs ++ L) ls (by rw [e1]; exact hP') hD' k3 hl T' rfl Y'
  rw [← mPush_eq] at a1
  exact ⟨t2, stp t2 a1, b1⟩
end MCATCH


