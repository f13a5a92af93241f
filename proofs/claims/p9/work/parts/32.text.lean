/-! Rows for texts. (Own work.) -/
set_option maxRecDepth 20000 in
theorem klC : (Cond.castable "[B" "java/lang/Cloneable") ∈ mW := mtb_3 (List.mem_of_getElem? (i := 74) rfl) rfl
set_option maxRecDepth 20000 in
theorem klE : (Cond.selects "[B" ⟨"[B", "clone", "()Ljava/lang/Object;"⟩ ⟨"java/lang/Object", "clone", "()Ljava/lang/Object;"⟩) ∈ mW := mtb_3 (List.mem_of_getElem? (i := 73) rfl) rfl
set_option maxRecDepth 20000 in
theorem klI : (Cond.instanceMethod ⟨"java/lang/Object", "clone", "()Ljava/lang/Object;"⟩) ∈ mW := mtb_3 (List.mem_of_getElem? (i := 72) rfl) rfl
set_option maxRecDepth 20000 in
theorem klN : (Cond.native ⟨"java/lang/Object", "clone", "()Ljava/lang/Object;"⟩) ∈ mW := mtb_3 (List.mem_of_getElem? (i := 71) rfl) rfl
set_option maxRecDepth 20000 in
theorem klS : (Cond.sameMethod "[B" "java/lang/Object" "clone" "()Ljava/lang/Object;") ∈ mW := mtb_3 (List.mem_of_getElem? (i := 70) rfl) rfl
set_option maxRecDepth 20000 in
theorem kaC : (Cond.code Lib.MathLoose.abs_long.x Lib.MathLoose.abs_long.code 2 (some .long)) ∈ mW := mtb_3 (List.mem_of_getElem? (i := 37) rfl) rfl
set_option maxRecDepth 20000 in
theorem knC : (Cond.code Lib.Math.min.name Lib.Math.min.code 2 (some .int)) ∈ mW := mtb_3 (List.mem_of_getElem? (i := 78) rfl) rfl
set_option maxRecDepth 20000 in
theorem kxC : (Cond.code Lib.Math.max.name Lib.Math.max.code 2 (some .int)) ∈ mW := mtb_3 (List.mem_of_getElem? (i := 60) rfl) rfl
set_option maxRecDepth 20000 in
theorem kxI : (Cond.initialized "java/lang/Math") ∈ mW := mtb_1 (List.mem_of_getElem? (i := 10) rfl) rfl
set_option maxRecDepth 20000 in
theorem kaS : (Cond.static Lib.MathLoose.abs_long.x) ∈ mW := mtb_3 (List.mem_of_getElem? (i := 36) rfl) rfl
set_option maxRecDepth 20000 in
theorem knS : (Cond.static Lib.Math.min.name) ∈ mW := mtb_3 (List.mem_of_getElem? (i := 77) rfl) rfl
set_option maxRecDepth 20000 in
theorem kxS : (Cond.static Lib.Math.max.name) ∈ mW := mtb_3 (List.mem_of_getElem? (i := 59) rfl) rfl
set_option maxRecDepth 20000 in
theorem kcI : (Cond.initialized "java/lang/System") ∈ mW := mtb_1 (List.mem_of_getElem? (i := 17) rfl) rfl
set_option maxRecDepth 20000 in
theorem kcS : (Cond.static arraycopyName) ∈ mW := mtb_3 (List.mem_of_getElem? (i := 80) rfl) rfl
set_option maxRecDepth 20000 in
theorem kcN : (Cond.native arraycopyName) ∈ mW := mtb_3 (List.mem_of_getElem? (i := 81) rfl) rfl
set_option maxRecDepth 20000 in
theorem kab : (Cond.arrayClass .byte) ∈ mW := mtb_1 (List.mem_of_getElem? (i := 188) rfl) rfl
section MT
variable {X : mC} {own : String} {cc : ByteArray} {nL : Nat} {R : Room} {hh : List (Nat × Nat × Nat × Nat)} {tys : List (ClassId × FieldType)} {pc : Nat} {lv : List (Nat × Option Value)} {st : List Value} {ws : va_W} {k n : Nat}
variable {Φ : Option Value → va_W → Prop} {Ψ : String → va_W → Prop} {mc ms : Nat} {ret : Option FieldType}

theorem r_ishl {x : Int32} (hX : mOK X own cc nL R hh tys) (hd : decode cc pc = .ok (.ishl, 1)) (kk : mV X (pc + 1) lv (.int x :: st) ws k n) : mV X pc lv (.int 0 :: .int x :: st) ws k n := by
  obtain ⟨p, l, e, R', s, m, args, below, meth, c, Q, D, tys', A⟩ := X
  obtain ⟨hx, hb, hml, hR, hown, hts, hK, hty, hlk, hA, hst, hlt, htab⟩ := hX
  exact fun H locs ls hP hD hS hl => lv_ishl hx hb hd (by rw [sb_shl0]; exact kk H locs ls hP hD hS hl)
theorem r_ishr {x : Int32} (hX : mOK X own cc nL R hh tys) (hd : decode cc pc = .ok (.ishr, 1)) (kk : mV X (pc + 1) lv (.int x :: st) ws k n) : mV X pc lv (.int 0 :: .int x :: st) ws k n := by
  obtain ⟨p, l, e, R', s, m, args, below, meth, c, Q, D, tys', A⟩ := X
  obtain ⟨hx, hb, hml, hR, hown, hts, hK, hty, hlk, hA, hst, hlt, htab⟩ := hX
  exact fun H locs ls hP hD hS hl => lv_ishr hx hb hd (by rw [sb_shr0]; exact kk H locs ls hP hD hS hl)
theorem r_ishr1 {x y : Int32} (hX : mOK X own cc nL R hh tys) (hd : decode cc pc = .ok (.ishr, 1))  (kk : mV X (pc + 1) lv (.int (x >>> (y &&& 31)) :: st) ws k n) : mV X pc lv (.int y :: .int x :: st) ws k n := by
  obtain ⟨p, l, e, R', s, m, args, below, meth, c, Q, D, tys', A⟩ := X
  obtain ⟨hx, hb, hml, hR, hown, hts, hK, hty, hlk, hA, hst, hlt, htab⟩ := hX
  exact fun H locs ls hP hD hS hl => lv_ishr hx hb hd  (kk H locs ls hP hD hS hl)
theorem r_i2b {x : Int32} (hX : mOK X own cc nL R hh tys) (hd : decode cc pc = .ok (.i2b, 1))  (kk : mV X (pc + 1) lv (.int x.toInt8.toInt32 :: st) ws k n) : mV X pc lv (.int x :: st) ws k n := by
  obtain ⟨p, l, e, R', s, m, args, below, meth, c, Q, D, tys', A⟩ := X
  obtain ⟨hx, hb, hml, hR, hown, hts, hK, hty, hlk, hA, hst, hlt, htab⟩ := hX
  exact fun H locs ls hP hD hS hl => lv_i2b hx hb hd rfl (kk H locs ls hP hD hS hl)
theorem r_i2c {x v : Int32} (hX : mOK X own cc nL R hh tys) (hd : decode cc pc = .ok (.i2c, 1)) (hv : (x.toUInt32 % 65536).toInt32 = v) (kk : mV X (pc + 1) lv (.int v :: st) ws k n) : mV X pc lv (.int x :: st) ws k n := by
  obtain ⟨p, l, e, R', s, m, args, below, meth, c, Q, D, tys', A⟩ := X
  obtain ⟨hx, hb, hml, hR, hown, hts, hK, hty, hlk, hA, hst, hlt, htab⟩ := hX
  exact fun H locs ls hP hD hS hl => lv_i2c hx hb hd hv (kk H locs ls hP hD hS hl)
theorem r_dupx1 {va vb : Value} (hX : mOK X own cc nL R hh tys) (hd : decode cc pc = .ok (.dup_x1, 1)) (h1 : va.category = 1) (h2 : vb.category = 1) (kk : mV X (pc + 1) lv (va :: vb :: va :: st) ws k n) : mV X pc lv (va :: vb :: st) ws k n := by
  obtain ⟨p, l, e, R', s, m, args, below, meth, c, Q, D, tys', A⟩ := X
  obtain ⟨hx, hb, hml, hR, hown, hts, hK, hty, hlk, hA, hst, hlt, htab⟩ := hX
  exact fun H locs ls hP hD hS hl => lv_dup_x1 hx hb hd h1 h2 (kk H locs ls hP hD hS hl)
theorem r_null (hX : mOK X own cc nL R hh tys) (hd : decode cc pc = .ok (.aconst_null, 1)) (kk : mV X (pc + 1) lv (.null :: st) ws k n) : mV X pc lv st ws k n := by
  obtain ⟨p, l, e, R', s, m, args, below, meth, c, Q, D, tys', A⟩ := X
  obtain ⟨hx, hb, hml, hR, hown, hts, hK, hty, hlk, hA, hst, hlt, htab⟩ := hX
  exact fun H locs ls hP hD hS hl => lv_null hx hb hd (kk H locs ls hP hD hS hl)
theorem r_compact {idx : Nat} (hX : mOK X own cc nL R hh tys) (hw : Cond.fieldLink own idx "java/lang/String" "COMPACT_STRINGS" "Z" ∈ mW) (hd : decode cc pc = .ok (.getstatic idx, 3)) (kk : mV X (pc + 3) lv (.int 1 :: st) ws k n) : mV X pc lv st ws k n := by
  obtain ⟨p, l, e, R', s, m, args, below, meth, c, Q, D, tys', A⟩ := X
  obtain ⟨hx, hb, hml, hR, hown, hts, hK, hty, hlk, hA, hst, hlt, htab⟩ := hX
  exact fun H locs ls hP hD hS hl => va_gets hx hb hst.2.2.2.2.1 hS hown (hts _ hw) (fun _ h => h) hd (kk H locs ls hP hD hS hl)
/-- a table of bytes that nobody writes -/
def mTb (X : mC) (t : Nat) (f : Nat → Int32) : Prop := match X with
  | (_, _, _, _, s, _, _, _, _, _, _, _, _, A) => va_T .byte t 100 (fun j => .int (f j)) A s s.heap
theorem r_ones {idx : Nat} (hX : mOK X own cc nL R hh tys) (hw : Cond.fieldLink own idx "java/lang/Integer" "DigitOnes" "[B" ∈ mW) (hd : decode cc pc = .ok (.getstatic idx, 3)) (kk : ∀ t, mTb X t (fun j => nI (48 + j % 10)) → mV X (pc + 3) lv (.ref t :: st) ws k n) : mV X pc lv st ws k n := by
  obtain ⟨p, l, e, R', s, m, args, below, meth, c, Q, D, tys', A⟩ := X
  obtain ⟨hx, hb, hml, hR, hown, hts, hK, hty, hlk, hA, hst, hlt, htab⟩ := hX
  obtain ⟨t, h1, h2⟩ := hst.2.2.2.2.2.1
  exact fun H locs ls hP hD hS hl => va_gets hx hb h1 hS hown (hts _ hw) (fun _ h => h) hd (kk t h2 H locs ls hP hD hS hl)
theorem r_tens {idx : Nat} (hX : mOK X own cc nL R hh tys) (hw : Cond.fieldLink own idx "java/lang/Integer" "DigitTens" "[B" ∈ mW) (hd : decode cc pc = .ok (.getstatic idx, 3)) (kk : ∀ t, mTb X t (fun j => nI (48 + j / 10)) → mV X (pc + 3) lv (.ref t :: st) ws k n) : mV X pc lv st ws k n := by
  obtain ⟨p, l, e, R', s, m, args, below, meth, c, Q, D, tys', A⟩ := X
  obtain ⟨hx, hb, hml, hR, hown, hts, hK, hty, hlk, hA, hst, hlt, htab⟩ := hX
  obtain ⟨t, h1, h2⟩ := hst.2.2.2.2.2.2.1
  exact fun H locs ls hP hD hS hl => va_gets hx hb h1 hS hown (hts _ hw) (fun _ h => h) hd (kk t h2 H locs ls hP hD hS hl)
theorem r_tb {t : Nat} {f : Nat → Int32} {i : Int32} (hX : mOK X own cc nL R hh tys) (ht : mTb X t f) (hin : vp_in i 100) (hd : decode cc pc = .ok (.baload, 1)) (kk : mV X (pc + 1) lv (.int (f i.toNatClampNeg) :: st) ws k n) : mV X pc lv (.int i :: .ref t :: st) ws k n := by
  obtain ⟨p, l, e, R', s, m, args, below, meth, c, Q, D, tys', A⟩ := X
  obtain ⟨hx, hb, hml, hR, hown, hts, hK, hty, hlk, hA, hst, hlt, htab⟩ := hX
  exact fun H locs ls hP hD hS hl => va_tb hx hb ht hS hin rfl hd (kk H locs ls hP hD hS hl)
theorem r_bald {a n0 : Nat} {cA : ClassId} {f : Nat → Int32} {i : Int32} (hX : mOK X own cc nL R hh tys) (q0 t0 : Nat) (he : ws[q0]? = some (a, .inl (cA, n0, .inl f))) (ht : tys[t0]? = some (cA, .byte)) (hin : vp_in i n0) (hd : decode cc pc = .ok (.baload, 1)) (kk : mV X (pc + 1) lv (.int (f i.toNatClampNeg) :: st) ws k n) : mV X pc lv (.int i :: .ref a :: st) ws k n := by
  obtain ⟨p, l, e, R', s, m, args, below, meth, c, Q, D, tys', A⟩ := X
  obtain ⟨hx, hb, hml, hR, hown, hts, hK, hty, hlk, hA, hst, hlt, htab⟩ := hX
  exact fun H locs ls hP hD hS hl => va_bald hx hb hK hP q0 t0 he ht hin hd (kk H locs ls hP hD hS hl)
theorem r_bast {a n0 : Nat} {cA : ClassId} {f : Nat → Int32} {i x : Int32} (hX : mOK X own cc nL R hh tys) (q0 t0 : Nat) (he : ws[q0]? = some (a, .inl (cA, n0, .inl f))) (ht : tys[t0]? = some (cA, .byte)) (hin : vp_in i n0) (hd : decode cc pc = .ok (.bastore, 1)) (kk : mV X (pc + 1) lv st (ws.set q0 (a, .inl (cA, n0, .inl (upd f i.toNatClampNeg (vp_nar .byte x))))) k n) : mV X pc lv (.int x :: .int i :: .ref a :: st) ws k n := by
  obtain ⟨p, l, e, R', s, m, args, below, meth, c, Q, D, tys', A⟩ := X
  obtain ⟨hx, hb, hml, hR, hown, hts, hK, hty, hlk, hA, hst, hlt, htab⟩ := hX
  exact fun H locs ls hP hD hS hl => va_bast hx hb hK hP hD hS q0 t0 he ht hin hd (fun H1 locs1 hP1 hD1 hS1 => kk H1 locs1 ls hP1 hD1 hS1 hl)
theorem r_newB {N : Nat} {cA : ClassId} (hX : mOK X own cc nL R hh tys) (t0 : Nat) (ht : tys[t0]? = some (cA, .byte)) (hN : N < 100000) (hd : decode cc pc = .ok (.newarray .byte, 2)) (hc : k + 1 ≤ R.cells) (hs : n + N ≤ R.slots) (kk : ∀ q, mV X (pc + 2) lv (.ref q :: st) ((q, .inl (cA, N, .inl (fun _ => 0))) :: ws) (k + 1) (n + N)) : mV X pc lv (.int (nI N) :: st) ws k n :=
  r_newA hX t0 ht kab rfl (by decide) (fun U c1 c2 h1 h2 => Option.some.inj ((show U.vm.findClass _ = some c1 from h1).symm.trans h2)) (fun cA => by rw [vp_cell_i]; rfl) hN hd hc hs kk
theorem r_copyb {a a0 n0 n1 idx : Nat} {c0 c1 : ClassId} {f g : Nat → Int32} {sp dp z : Int32} (hX : mOK X own cc nL R hh tys) (hw : Cond.methodLink own idx arraycopyName ∈ mW) (q0 q1 t0 t1 : Nat) (h0 : ws[q0]? = some (a0, .inl (c0, n0, .inl f))) (h1 : ws[q1]? = some (a, .inl (c1, n1, .inl g))) (ht0 : tys[t0]? = some (c0, .byte)) (ht1 : tys[t1]? = some (c1, .byte)) (g1 : ¬ sp < 0) (g2 : ¬ dp < 0) (g3 : ¬ z < 0) (g4 : sp.toNatClampNeg + z.toNatClampNeg ≤ n0) (g5 : dp.toNatClampNeg + z.toNatClampNeg ≤ n1) (hfit : sb_Fit f) (hfr : 1 ≤ R.frames) (hlo : (st.map fun v => v.category).sum + 100 ≤ R.locals) (hd : decode cc pc = .ok (.invokestatic idx, 3)) (kk : mV X (pc + 3) lv st (ws.set q1 (a, .inl (c1, n1, .inl (va_cpy f g sp.toNatClampNeg dp.toNatClampNeg z.toNatClampNeg)))) k n) : mV X pc lv (.int z :: .int dp :: .ref a :: .int sp :: .ref a0 :: st) ws k n := by
  obtain ⟨p, l, e, R', s, m, args, below, meth, c, Q, D, tys', A⟩ := X
  obtain ⟨hx, hb, hml, hR, hown, hts, hK, hty, hlk, hA, hst, hlt, htab⟩ := hX
  subst hR
  exact fun H locs ls hP hD hS hl => va_copyi hx hb hl.1.symm hown (hts _ hw) (hts _ kcN) (hts _ kcS) (hts _ kcI) hK hP hD hS q0 q1 t0 t1 h0 h1 ht0 ht1 rfl g1 g2 g3 g4 g5 (fun i _ => hfit _) hfr (Nat.le_trans (Nat.add_le_add_left (by decide) _) hlo) hd (fun H1 locs1 hP1 hD1 hS1 => kk H1 locs1 ls hP1 hD1 hS1 hl)
theorem r_mmax {idx : Nat} {x y : Int32} (hX : mOK X own cc nL R hh tys) (hw : Cond.methodLink own idx Lib.Math.max.name ∈ mW) (hfr : 1 ≤ R.frames) (hlo : (st.map fun v => v.category).sum + 13 ≤ R.locals) (hc : k ≤ R.cells) (hs : n ≤ R.slots) (hd : decode cc pc = .ok (.invokestatic idx, 3)) (kk : mV X (pc + 3) lv (.int (if x < y then y else x) :: st) ws k n) : mV X pc lv (.int y :: .int x :: st) ws k n := by
  obtain ⟨p, l, e, R', s, m, args, below, meth, c, Q, D, tys', A⟩ := X
  obtain ⟨hx, hb, hml, hR, hown, hts, hK, hty, hlk, hA, hst, hlt, htab⟩ := hX
  subst hR
  exact fun H locs ls hP hD hS hl => va_mmax hx hb hl.1.symm hown (hts _ hw) (hts _ kxS) (hts _ kxI) (hts _ kxC) hfr hlo hc hs hd (kk H locs ls hP hD hS hl)
theorem r_mmin {idx : Nat} {x y : Int32} (hX : mOK X own cc nL R hh tys) (hw : Cond.methodLink own idx Lib.Math.min.name ∈ mW) (hfr : 1 ≤ R.frames) (hlo : (st.map fun v => v.category).sum + 13 ≤ R.locals) (hc : k ≤ R.cells) (hs : n ≤ R.slots) (hd : decode cc pc = .ok (.invokestatic idx, 3)) (kk : mV X (pc + 3) lv (.int (if y < x then y else x) :: st) ws k n) : mV X pc lv (.int y :: .int x :: st) ws k n := by
  obtain ⟨p, l, e, R', s, m, args, below, meth, c, Q, D, tys', A⟩ := X
  obtain ⟨hx, hb, hml, hR, hown, hts, hK, hty, hlk, hA, hst, hlt, htab⟩ := hX
  subst hR
  exact fun H locs ls hP hD hS hl => va_mmin hx hb hl.1.symm hown (hts _ hw) (hts _ knS) (hts _ kxI) (hts _ knC) hfr hlo hc hs hd (kk H locs ls hP hD hS hl)
theorem r_mabsl {idx : Nat} {x : Int64} (hX : mOK X own cc nL R hh tys) (hw : Cond.methodLink own idx Lib.MathLoose.abs_long.x ∈ mW) (hfr : 1 ≤ R.frames) (hlo : (st.map fun v => v.category).sum + 13 ≤ R.locals) (hc : k ≤ R.cells) (hs : n ≤ R.slots) (hd : decode cc pc = .ok (.invokestatic idx, 3)) (kk : mV X (pc + 3) lv (.long (if 0 < x then x else -x) :: st) ws k n) : mV X pc lv (.long x :: st) ws k n := by
  obtain ⟨p, l, e, R', s, m, args, below, meth, c, Q, D, tys', A⟩ := X
  obtain ⟨hx, hb, hml, hR, hown, hts, hK, hty, hlk, hA, hst, hlt, htab⟩ := hX
  subst hR
  exact fun H locs ls hP hD hS hl => va_mabs_long hx hb hl.1.symm hown (hts _ hw) (hts _ kaS) (hts _ kxI) (hts _ kaC) hfr hlo hc hs hd (kk H locs ls hP hD hS hl)
theorem r_clone {a idx : Nat} {cA : ClassId} {n0 : Nat} {f : Nat → Int32} (hX : mOK X own cc nL R hh tys) (hw : Cond.methodLink own idx ⟨"[B", "clone", "()Ljava/lang/Object;"⟩ ∈ mW) (q0 t0 : Nat) (he : ws[q0]? = some (a, .inl (cA, n0, .inl f))) (ht : tys[t0]? = some (cA, .byte)) (hfit : sb_Fit f) (hfr : 1 ≤ R.frames) (hlo : (st.map fun v => v.category).sum + 14 ≤ R.locals) (hc : k + 1 ≤ R.cells) (hs : n + n0 ≤ R.slots) (hd : decode cc pc = .ok (.invokevirtual idx, 3)) (kk : ∀ q, mV X (pc + 3) lv (.ref q :: st) ((q, .inl (cA, n0, .inl f)) :: ws) (k + 1) (n + n0)) : mV X pc lv (.ref a :: st) ws k n := by
  obtain ⟨p, l, e, R', s, m, args, below, meth, c, Q, D, tys', A⟩ := X
  obtain ⟨hx, hb, hml, hR, hown, hts, hK, hty, hlk, hA, hst, hlt, htab⟩ := hX
  subst hR
  exact fun H locs ls hP hD hS hl => va_clone (ad := "[B") hx hb hl.1.symm hown (hts _ hw) (hts _ klS) (hts _ klN) (hts _ klI) (hts _ klE) (va_Nw.of rfl (hts _ klC)) hK hP hD hS hA q0 t0 he ht (hK.2 t0 _ ht).2 (fun i v hv => by
    rw [vp_cell_i] at hv
    exact va_fit (fun i _ => hfit i) i v hv) hfr hlo hc hs hd (fun q H1 _ hP1 hD1 hS1 => kk q H1 locs ls (va_P.swap (a := []) (b := ws) (c := [_]) hP1) (va_D.swap (a := []) (b := ws) (c := [_]) hD1) hS1 hl)
theorem r_castB {a idx : Nat} {cA : ClassId} {x : vp_A} (hX : mOK X own cc nL R hh tys) (hw : Cond.classLink own idx "[B" ∈ mW) (q0 t0 : Nat) (he : ws[q0]? = some (a, .inl (cA, x))) (ht : tys[t0]? = some (cA, .byte)) (hd : decode cc pc = .ok (.checkcast idx, 3)) (kk : mV X (pc + 3) lv (.ref a :: st) ws k n) : mV X pc lv (.ref a :: st) ws k n := by
  obtain ⟨p, l, e, R', s, m, args, below, meth, c, Q, D, tys', A⟩ := X
  obtain ⟨hx, hb, hml, hR, hown, hts, hK, hty, hlk, hA, hst, hlt, htab⟩ := hX
  exact fun H locs ls hP hD hS hl => va_castA hx hb hown (hts _ hw) hP q0 he (hK.2 t0 _ ht).2 hd (kk H locs ls hP hD hS hl)
end MT


