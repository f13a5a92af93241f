/-! Rows that make objects and arrays. (Own work.) -/
section MK
variable {X : mC} {own : String} {cc : ByteArray} {nL : Nat} {R : Room} {hh : List (Nat × Nat × Nat × Nat)} {tys : List (ClassId × FieldType)} {pc : Nat} {lv : List (Nat × Option Value)} {st : List Value} {ws : va_W} {k n : Nat}
variable {Φ : Option Value → va_W → Prop} {Ψ : String → va_W → Prop} {mc ms : Nat} {ret : Option FieldType}

set_option maxRecDepth 20000 in
theorem kob_X2 : (Cond.methodLink RX2 3 Lib.objectInit) ∈ mW := mtb_1 (List.mem_of_getElem? (i := 29) rfl) rfl
set_option maxRecDepth 20000 in
theorem kob_X1 : (Cond.methodLink RX1 3 Lib.objectInit) ∈ mW := mtb_1 (List.mem_of_getElem? (i := 38) rfl) rfl
set_option maxRecDepth 20000 in
theorem kob_X3 : (Cond.methodLink RX3 1 Lib.objectInit) ∈ mW := mtb_2 (List.mem_of_getElem? (i := 144) rfl) rfl
set_option maxRecDepth 20000 in
theorem kob_X4 : (Cond.methodLink RX4 1 Lib.objectInit) ∈ mW := mtb_5 (List.mem_of_getElem? (i := 52) rfl) rfl
set_option maxRecDepth 20000 in
theorem koi : (Cond.instanceMethod Lib.objectInit) ∈ mW := mtb_1 (List.mem_of_getElem? (i := 30) rfl) rfl
set_option maxRecDepth 20000 in
theorem koc : (Cond.code Lib.objectInit ⟨#[0xb1]⟩ 1 none) ∈ mW := mtb_1 (List.mem_of_getElem? (i := 31) rfl) rfl
set_option maxRecDepth 20000 in
theorem kao : (Cond.arrayOver (.object RX1)) ∈ mW := mtb_1 (List.mem_of_getElem? (i := 33) rfl) rfl
set_option maxRecDepth 20000 in
theorem kim_X2 : (Cond.instanceMethod yX2_init) ∈ mW := mtb_1 (List.mem_of_getElem? (i := 27) rfl) rfl
set_option maxRecDepth 20000 in
theorem kil_X2 : (Cond.methodLink RL 129 yX2_init) ∈ mW := mtb_1 (List.mem_of_getElem? (i := 26) rfl) rfl
set_option maxRecDepth 20000 in
theorem kcd_X2 : (Cond.code yX2_init cX2_init 1 none) ∈ mW := mtb_1 (List.mem_of_getElem? (i := 28) rfl) rfl
set_option maxRecDepth 20000 in
theorem kim_X1 : (Cond.instanceMethod yX1_init) ∈ mW := mtb_1 (List.mem_of_getElem? (i := 36) rfl) rfl
set_option maxRecDepth 20000 in
theorem kiN_X1 : (Cond.methodLinkNest RX2 19 yX1_init RX2) ∈ mW := mtb_1 (List.mem_of_getElem? (i := 35) rfl) rfl
set_option maxRecDepth 20000 in
theorem kcd_X1 : (Cond.code yX1_init cX1_init 1 none) ∈ mW := mtb_1 (List.mem_of_getElem? (i := 37) rfl) rfl
set_option maxRecDepth 20000 in
theorem kim_X3 : (Cond.instanceMethod yX3_init) ∈ mW := mtb_2 (List.mem_of_getElem? (i := 142) rfl) rfl
set_option maxRecDepth 20000 in
theorem kiN_X3 : (Cond.methodLinkNest RL 133 yX3_init RL) ∈ mW := mtb_2 (List.mem_of_getElem? (i := 141) rfl) rfl
set_option maxRecDepth 20000 in
theorem kcd_X3 : (Cond.code yX3_init cX3_init 1 none) ∈ mW := mtb_2 (List.mem_of_getElem? (i := 143) rfl) rfl
set_option maxRecDepth 20000 in
theorem kim_X4 : (Cond.instanceMethod yX4_init) ∈ mW := mtb_5 (List.mem_of_getElem? (i := 50) rfl) rfl
set_option maxRecDepth 20000 in
theorem kil_X4 : (Cond.methodLink RL 132 yX4_init) ∈ mW := mtb_5 (List.mem_of_getElem? (i := 49) rfl) rfl
set_option maxRecDepth 20000 in
theorem kcd_X4 : (Cond.code yX4_init cX4_init 1 none) ∈ mW := mtb_5 (List.mem_of_getElem? (i := 51) rfl) rfl
theorem r_part {B C pl : va_W} (is : List Nat) (hn : va_nd is = true) (hs : is.map (fun i => B[i]?) = C.map some) (kk : mV X pc lv st (C ++ pl) k n) : mV X pc lv st (B ++ pl) k n := by
  obtain ⟨p, l, e, R', s, m, args, below, meth, c, Q, D, tys', A⟩ := X
  exact fun H locs ls hP hD hS hl => kk H locs ls (va_P.part hP is hs) (va_D.part hD is hn hs) hS hl
theorem r_objInit {idx : Nat} {a : Nat} (hX : mOK X own cc nL R hh tys) (hw : Cond.methodLink own idx Lib.objectInit ∈ mW) (hf : 1 ≤ R.frames) (hlo : (st.map fun v => v.category).sum + 12 ≤ R.locals) (hd : decode cc pc = .ok (.invokespecial idx, 3)) (kk : mV X (pc + 3) lv st ws k n) : mV X pc lv (.ref a :: st) ws k n := by
  obtain ⟨p, l, e, R', s, m, args, below, meth, c, Q, D, tys', A⟩ := X
  obtain ⟨hx, hb, hml, hR, hown, hts, hK, hty, hlk, hA, hst, hlt, htab⟩ := hX
  subst hR
  exact fun H locs ls hP hD hS hl => W.objInit hx hb hown (hts _ hw) (hts _ koi) (hts _ koc) (g := F0 m pc ls (.ref a :: st)) rfl hl.1 rfl hd hf (by show 2 * 0 + _ + 12 ≤ _; omega) (kk H locs ls hP hD hS hl)
theorem r_newA {N : Nat} {cA : ClassId} {at0 : ArrayType} {ty : FieldType} {a0 : vp_A} (hX : mOK X own cc nL R hh tys) (t0 : Nat) (ht : tys[t0]? = some (cA, ty)) (hw : Cond.arrayClass ty ∈ mW) (hat : newarray.typeOf at0 = ty) (hca : componentBytes ty ≤ 8) (hra : ∀ (U : State) (c1 c2 : ClassId), va_RA U c1 ty → va_RA U c2 ty → c1 = c2) (ha : ∀ cA : ClassId, vp_cell cA a0 = arrV cA N (fun _ => defaultValue ty)) (hN : N < 100000) (hd : decode cc pc = .ok (.newarray at0, 2)) (hc : k + 1 ≤ R.cells) (hs : n + N ≤ R.slots) (kk : ∀ q, mV X (pc + 2) lv (.ref q :: st) ((q, .inl (cA, a0)) :: ws) (k + 1) (n + N)) : mV X pc lv (.int (nI N) :: st) ws k n := by
  obtain ⟨p, l, e, R', s, m, args, below, meth, c, Q, D, tys', A⟩ := X
  obtain ⟨hx, hb, hml, hR, hown, hts, hK, hty, hlk, hA, hst, hlt, htab⟩ := hX
  subst hR
  subst hat
  refine fun H locs ls hP hD hS hl => va_newa (atype := at0) hx hb (hts _ hw) rfl hK hP hD hS hA (a0 := a0) (N' := N) ha (nI_pos (by omega)) (nI_clamp (by omega)) (Nat.le_trans (Nat.mul_le_mul (Nat.le_of_lt hN) hca) (by decide)) hc hs hd (fun q cA' H1 hK1 hP1 hD1 hS1 => ?_)
  have e : cA' = cA := hra s _ _ (hK1.2 tys.length (cA', newarray.typeOf at0) (by simp)).2 (hK.2 t0 _ ht).2
  subst e
  exact kk q H1 locs ls (va_P.swap (a := []) (b := ws) (c := [_]) hP1) (va_D.swap (a := []) (b := ws) (c := [_]) hD1) hS1 hl
theorem r_newL {N : Nat} {cA : ClassId} (hX : mOK X own cc nL R hh tys) (t0 : Nat) (ht : tys[t0]? = some (cA, .long)) (hN : N < 100000) (hd : decode cc pc = .ok (.newarray .long, 2)) (hc : k + 1 ≤ R.cells) (hs : n + N ≤ R.slots) (kk : ∀ q, mV X (pc + 2) lv (.ref q :: st) ((q, .inl (cA, N, .inr (.inl (fun _ => 0)))) :: ws) (k + 1) (n + N)) : mV X pc lv (.int (nI N) :: st) ws k n :=
  r_newA hX t0 ht ka_long rfl (by decide) (fun U c1 c2 h1 h2 => Option.some.inj ((show U.vm.findClass _ = some c1 from h1).symm.trans h2)) (fun cA => by rw [vp_cell_l]; rfl) hN hd hc hs kk
theorem r_newI {N : Nat} {cA : ClassId} (hX : mOK X own cc nL R hh tys) (t0 : Nat) (ht : tys[t0]? = some (cA, .int)) (hN : N < 100000) (hd : decode cc pc = .ok (.newarray .int, 2)) (hc : k + 1 ≤ R.cells) (hs : n + N ≤ R.slots) (kk : ∀ q, mV X (pc + 2) lv (.ref q :: st) ((q, .inl (cA, N, .inl (fun _ => 0))) :: ws) (k + 1) (n + N)) : mV X pc lv (.int (nI N) :: st) ws k n :=
  r_newA hX t0 ht ka_int rfl (by decide) (fun U c1 c2 h1 h2 => Option.some.inj ((show U.vm.findClass _ = some c1 from h1).symm.trans h2)) (fun cA => by rw [vp_cell_i]; rfl) hN hd hc hs kk
theorem r_newQ {N idx : Nat} {cA : ClassId} {C : String} (hX : mOK X own cc nL R hh tys) (t0 : Nat) (ht : tys[t0]? = some (cA, .object C)) (hw : Cond.classLink own idx C ∈ mW) (hw2 : Cond.arrayOver (.object C) ∈ mW) (hN : N < 100000) (hd : decode cc pc = .ok (.anewarray idx, 3)) (hc : k + 1 ≤ R.cells) (hs : n + N ≤ R.slots) (kk : ∀ q, mV X (pc + 3) lv (.ref q :: st) ((q, .inl (cA, N, .inr (.inr (.inr (.inr (fun _ => none)))))) :: ws) (k + 1) (n + N)) : mV X pc lv (.int (nI N) :: st) ws k n := by
  obtain ⟨p, l, e, R', s, m, args, below, meth, c, Q, D, tys', A⟩ := X
  obtain ⟨hx, hb, hml, hR, hown, hts, hK, hty, hlk, hA, hst, hlt, htab⟩ := hX
  subst hR
  refine fun H locs ls hP hD hS hl => va_newq hx hb hown (hts _ hw) (va_AO.of (hts _ hw2)) hK hP hD hS hA (N' := N) (nI_pos (by omega)) (nI_clamp (by omega)) (by omega) hc hs hd (fun q cA' H1 hK1 hP1 hD1 hS1 => ?_)
  have e : cA' = cA := by
    obtain ⟨_, _, _, _, _, h1⟩ := (hK.2 t0 _ ht).2
    obtain ⟨_, _, _, _, _, h2⟩ := (hK1.2 tys.length (cA', .object C) (by simp)).2
    exact Option.some.inj (h2.symm.trans h1)
  subst e
  exact kk q H1 locs ls (va_P.swap (a := []) (b := ws) (c := [_]) hP1) (va_D.swap (a := []) (b := ws) (c := [_]) hD1) hS1 hl
theorem r_astq {qk ci N v : Nat} {a : Nat} {cA : ClassId} {r : vw_C} {vs : List Value} {f : Nat → Option Nat} {i : Int32} (hX : mOK X own cc nL R hh tys) (q0 t0 : Nat) (he : ws[q0]? = some (a, .inl (cA, N, .inr (.inr (.inr (.inr f)))))) (ht : tys[t0]? = some (cA, .object r.1)) (hv : ws[qk]? = some (v, .inr (ci, vs))) (hc : vwCl[ci]? = some r) (hin : vp_in i N) (hd : decode cc pc = .ok (.aastore, 1)) (kk : mV X (pc + 1) lv st (ws.set q0 (a, .inl (cA, N, .inr (.inr (.inr (.inr (va_up f i.toNatClampNeg (some v)))))))) k n) : mV X pc lv (.ref v :: .int i :: .ref a :: st) ws k n := by
  obtain ⟨p, l, e, R', s, m, args, below, meth, c, Q, D, tys', A⟩ := X
  obtain ⟨hx, hb, hml, hR, hown, hts, hK, hty, hlk, hA, hst, hlt, htab⟩ := hX
  exact fun H locs ls hP hD hS hl => va_astq hx hb hK hP hD hS q0 t0 qk ci he ht hv hc hin hd (fun H1 locs1 hP1 hD1 hS1 => kk H1 locs1 ls hP1 hD1 hS1 hl)
theorem r_new {idx ci N : Nat} {C : String} {T : u_T} {ty : Nat → FieldType} {fs : List Value} (hX : mOK X own cc nL R hh tys) (hin : ∀ w ∈ u_ws C T N, w ∈ mW) (hty2 : ∀ j, j < N → parseFieldDescriptor (T j).2.2.1 = some (ty j)) (hw : Cond.classLink own idx C ∈ mW) (hw2 : Cond.instantiable C N ∈ mW) (hw3 : Cond.initialized C ∈ mW) (hc : vwCl[ci]? = some (C, T, N)) (hfs : ∀ j, j < N → defaultValue (ty j) = vp_V fs j) (hce : k + 1 ≤ R.cells) (hsl : n + N ≤ R.slots) (hd : decode cc pc = .ok (.new idx, 3)) (kk : ∀ q, mV X (pc + 3) lv (.ref q :: st) ((q, .inr (ci, fs)) :: ws) (k + 1) (n + N)) : mV X pc lv st ws k n := by
  obtain ⟨p, l, e, R', s, m, args, below, meth, c, Q, D, tys', A⟩ := X
  obtain ⟨hx, hb, hml, hR, hown, hts, hK, hty, hlk, hA, hst, hlt, htab⟩ := hX
  subst hR
  exact fun H locs ls hP hD hS hl => va_new hx hb hts hin ty hty2 hown (hts _ hw) (hts _ hw2) (hts _ hw3) hK hP hD hS hA hc hfs hce hsl hd (fun q H1 hP1 hD1 hS1 => kk q H1 locs ls (va_P.swap (a := []) (b := ws) (c := [_]) hP1) (va_D.swap (a := []) (b := ws) (c := [_]) hD1) hS1 hl)
end MK
def mWI (own : String) (idx : Nat) (y : MethodName) (b : ByteArray) (nL : Nat) (cnt : Nat) : Prop :=
  Cond.methodLink own idx y ∈ mW ∧ Cond.instanceMethod y ∈ mW ∧ Cond.initialized y.cls ∈ mW ∧ Cond.code y b nL none ∈ mW ∧ (y.cls ≠ "java/lang/invoke/MethodHandle" ∧ y.cls ≠ "java/lang/invoke/VarHandle") ∧ (parseMethodDescriptor y.desc).map (fun d => d.parameters.length) = some cnt ∧ y.name = "<init>"
def mWIN (own host : String) (idx : Nat) (y : MethodName) (b : ByteArray) (nL : Nat) (cnt : Nat) : Prop :=
  Cond.methodLinkNest own idx y host ∈ mW ∧ Cond.instanceMethod y ∈ mW ∧ Cond.initialized y.cls ∈ mW ∧ Cond.code y b nL none ∈ mW ∧ (y.cls ≠ "java/lang/invoke/MethodHandle" ∧ y.cls ≠ "java/lang/invoke/VarHandle") ∧ (parseMethodDescriptor y.desc).map (fun d => d.parameters.length) = some cnt ∧ y.name = "<init>"
section MK2
variable {X : mC} {own : String} {cc : ByteArray} {nL : Nat} {R : Room} {hh : List (Nat × Nat × Nat × Nat)} {tys : List (ClassId × FieldType)} {pc : Nat} {lv : List (Nat × Option Value)} {st : List Value} {ws : va_W} {k n : Nat}

theorem r_callI {y : MethodName} {b : ByteArray} {nL2 idx cnt a : Nat} {rm : Room} {as rest : List Value} {Φ2 : Option Value → va_W → Prop} (hX : mOK X own cc nL R hh tys) (hc : mCt tys y b nL2 none rm (.ref a :: as) ws Φ2 mNo) (hw : mWI own idx y b nL2 cnt) (hst0 : st = as.reverse ++ .ref a :: rest) (hlen : as.length = cnt) (hro : (rest.map fun v => v.category).sum ≤ 8) (hrm : rm.frames + 1 ≤ R.frames ∧ 8 + (nL2 + 11) + rm.locals ≤ R.locals) (hce : k + rm.cells ≤ R.cells ∧ n + rm.slots ≤ R.slots) (hd : decode cc pc = .ok (.invokespecial idx, 3)) (kk : ∀ v ws', Φ2 v ws' → mV X (pc + 3) lv (mPush v rest) ws' (k + rm.cells) (n + rm.slots)) : mV X pc lv st ws k n := by
  obtain ⟨p, l, e, R', s, m, args, below, meth, c, Q, D, tys', A⟩ := X
  obtain ⟨hx, hb, hml, hR, hown, hts, hK, hty, hlk, hA, hst, hlt, htab⟩ := hX
  obtain ⟨w1, w2, w3, w4, w5, w6, w7⟩ := hw
  subst hR
  intro H locs ls hP hD hS hl
  have hrun := va_runI (own := own) (index := idx) (cells := k) (slots := n) (locs := locs) (e := e) (below := below) (meth := meth) (rest := rest) (g := F0 m pc ls st) ⟨hx, hb, hml, hown, hts⟩ (mMet (hc l D A hlt) (fun E st t h => by obtain ⟨_, h, _⟩ := h; exact h)) ⟨⟨rfl, rfl, hrm.1, hrm.2, mWords hts w4, List.mem_cons_self, hts _ w4, hts _ w3, w5, mCount w6, hts _ w1⟩, w7, hts _ w2⟩ ⟨mU_blind, fun U hU hW => ⟨rfl, mU_at hP hD hS hK hA hst hU hW⟩⟩ rfl hlen (hl.1.trans hml) hst0 (lv_room hro) hd hce
  intro T hT Y
  obtain ⟨v, st₀, t, T', L, h0, Y', hL, e1, e2, ⟨v', ws', hv, hp, hP', hD', hF⟩, stp⟩ := hrun T hT Y
  cases hv
  obtain ⟨-, -, k3⟩ := vx_keep h0 e1 hS (fun _ _ h => h) (fun _ h => h) hL hF
  obtain ⟨t2, a1, b1⟩ := kk v ws' hp T'.heap (locs ++ L) ls (by rw [e1]; exact hP') hD' k3 hl T' rfl Y'
  rw [← mPush_eq] at a1
  exact ⟨t2, stp t2 a1, b1⟩

theorem r_callIN {host : String} {y : MethodName} {b : ByteArray} {nL2 idx cnt a : Nat} {rm : Room} {as rest : List Value} {Φ2 : Option Value → va_W → Prop} (hX : mOK X own cc nL R hh tys) (hc : mCt tys y b nL2 none rm (.ref a :: as) ws Φ2 mNo) (hw : mWIN own host idx y b nL2 cnt) (hst0 : st = as.reverse ++ .ref a :: rest) (hlen : as.length = cnt) (hro : (rest.map fun v => v.category).sum ≤ 8) (hrm : rm.frames + 1 ≤ R.frames ∧ 8 + (nL2 + 11) + rm.locals ≤ R.locals) (hce : k + rm.cells ≤ R.cells ∧ n + rm.slots ≤ R.slots) (hd : decode cc pc = .ok (.invokespecial idx, 3)) (kk : ∀ v ws', Φ2 v ws' → mV X (pc + 3) lv (mPush v rest) ws' (k + rm.cells) (n + rm.slots)) : mV X pc lv st ws k n := by
  obtain ⟨p, l, e, R', s, m, args, below, meth, c, Q, D, tys', A⟩ := X
  obtain ⟨hx, hb, hml, hR, hown, hts, hK, hty, hlk, hA, hst, hlt, htab⟩ := hX
  obtain ⟨w1, w2, w3, w4, w5, w6, w7⟩ := hw
  subst hR
  intro H locs ls hP hD hS hl
  have hrun := va_runIN (host := host) (own := own) (index := idx) (cells := k) (slots := n) (locs := locs) (e := e) (below := below) (meth := meth) (rest := rest) (g := F0 m pc ls st) ⟨hx, hb, hml, hown, hts⟩ (mMet (hc l D A hlt) (fun E st t h => by obtain ⟨_, h, _⟩ := h; exact h)) ⟨⟨⟨rfl, rfl, hrm.1, hrm.2, mWords hts w4, List.mem_cons_self⟩, hts _ w4, hts _ w3, w5, mCount w6, hts _ w1⟩, w7, hts _ w2⟩ ⟨mU_blind, fun U hU hW => ⟨rfl, mU_at hP hD hS hK hA hst hU hW⟩⟩ rfl hlen (hl.1.trans hml) hst0 (lv_room hro) hd hce
  intro T hT Y
  obtain ⟨v, st₀, t, T', L, h0, Y', hL, e1, e2, ⟨v', ws', hv, hp, hP', hD', hF⟩, stp⟩ := hrun T hT Y
  cases hv
  obtain ⟨-, -, k3⟩ := vx_keep h0 e1 hS (fun _ _ h => h) (fun _ h => h) hL hF
  obtain ⟨t2, a1, b1⟩ := kk v ws' hp T'.heap (locs ++ L) ls (by rw [e1]; exact hP') hD' k3 hl T' rfl Y'
  rw [← mPush_eq] at a1
  exact ⟨t2, stp t2 a1, b1⟩

end MK2
theorem mCt.ofI {tys : List (ClassId × FieldType)} {y : MethodName} {cc : ByteArray} {nL : Nat} {ret : Option FieldType} {rm : Room} {as : List Value} {ws : va_W} {Φ : Option Value → va_W → Prop} {Ψ : String → va_W → Prop} (hy : plainFor y = true) (hyn : y.name = "<init>") (hlen : (lg_sl as).length ≤ nL)
    (body : ∀ X, mOK X y.cls cc nL rm [] tys → mIni X → mE X Φ Ψ ret rm.cells rm.slots → mV X 0 (mlv as) [] ws 0 0) : mCt tys y cc nL ret rm as ws Φ Ψ := by
  intro l D A hst
  refine vx_ofWF (cc := cc) (maxL := nL) (ret := ret) hy rfl ?_
  intro p e s m args below meth c s₁ B hml ht hv
  obtain ⟨rfl, hP, hD, hK, hA, hs⟩ := hv
  have hts := atoms_spec (ws := Cond.code y cc nL ret :: mW) B.pre
  have htab : c.exceptionTable.toList = tableOf [] := List.eq_nil_iff_forall_not_mem.mpr (fun x hx => ht x hx)
  have h0 := body (p, l, e, _, s, m, _, below, meth, c, _, D, tys, A) ⟨B.exec, B.bytes, hml, rfl, findClass_of_methodNamed B.named, fun w hw => hts w (List.mem_cons_of_mem _ hw), hK, rfl, B.notSynchronized, hA, hs, hst, htab⟩ ((name_of_methodNamed B.named B.method).1.trans hyn) ⟨B.returns, rfl⟩
  have hl := lv_entry as hlen
  rw [lg_entry_eq]
  exact h0 s.heap [] _ hP hD va_S.rf ⟨hl.1.trans hml.symm, hl.2.1, fun i v h => hl.2.2 (i, v) (lget_mem h)⟩

theorem kI_X1 : mWIN RX2 RX2 19 yX1_init cX1_init 1 0 := ⟨kiN_X1, kim_X1, kt_X1, kcd_X1, ⟨by decide +kernel, by decide +kernel⟩, by decide +kernel, rfl⟩
theorem kI_X2 : mWI RL 129 yX2_init cX2_init 1 0 := ⟨kil_X2, kim_X2, kt_X2, kcd_X2, ⟨by decide +kernel, by decide +kernel⟩, by decide +kernel, rfl⟩
theorem kI_X3 : mWIN RL RL 133 yX3_init cX3_init 1 0 := ⟨kiN_X3, kim_X3, kt_X3, kcd_X3, ⟨by decide +kernel, by decide +kernel⟩, by decide +kernel, rfl⟩
theorem kI_X4 : mWI RL 132 yX4_init cX4_init 1 0 := ⟨kil_X4, kim_X4, kt_X4, kcd_X4, ⟨by decide +kernel, by decide +kernel⟩, by decide +kernel, rfl⟩

