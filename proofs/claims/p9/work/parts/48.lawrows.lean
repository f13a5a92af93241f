/-! THE CLAIM OUT OF ONE WALK OF THE LAW'S BODY. Your part is whole_start (and what it stands on); all else here is the same for every law, but numbers. -/
def R_law : String := "MomentdeskLaw"
def lw_P (b : Addr) (xs : List Int32) (args : Array Value) (s : State) : Prop := args = #[.ref b] ∧ s.IntsAt b xs ∧ xs.length ≤ 3584 ∧ (Jvm.Cond.and given_1 narrow_1).before args s = true
def lw_Q (_ : Array Value) (s : State) (o : Outcome) (t : State) : Prop := o = .returned (some (.int 1)) ∧ Framed s o t [] 652172 7139589
def lw_Z (below : List Frame) (a : Array Value) (s : State) : State → Prop := fun t => ∃ o, t.status = .running ∧ Ended t below o ∧ lw_Q a s o t
/-- the law's own end, with 1 on the stack, nothing written that was there before, its room as the claim has it -/
theorem lw_ret {p : Program} {l : Launch} {e : Env} {s : State} {m : MethodId} {below : List Frame} {meth : Method} {c : Code} {b : Nat} (hx : p.tables.exec = Jvm.exec) (hb : c.code = code) (hr : meth.sig.returnType = ret) (hlocks : meth.locks = false) {pc : Nat} {H : Heap} {ls : Array Slot} (hdg : decode code pc = .ok (.ireturn, 1)) : W p l e room_1 s m #[Value.ref b] below meth c H [] 652172 7139589 (lw_Z below #[Value.ref b] s) (F0 m pc ls [.int 1]) := by
  intro T hT X
  obtain ⟨fs, hret, hrun, hended, hW, hframe⟩ := X.leave (v := some (.int 1)) (hlocks := hlocks) (fun h => by rw [hr] at h; cases h)
  have hmeth' : T.vm.method? m = some meth := X.method'
  refine ⟨T.setFrames fs, ?_, .returned (some (.int 1)), hrun, hended, rfl, ⟨_, rfl⟩, hW, hframe⟩
  jvm_step X.here [X.here.top, hx, hb, hdg, hmeth', hr, ret, narrow_b1]
  (try refine ⟨rfl, ?_⟩); (try refine ⟨rfl, ?_⟩)
  first | (intro acts; rw [hret _ acts rfl rfl rfl]) | rw [hret _ _ rfl rfl rfl]
  exact Steps.refl _
/-- what holds at the law's entry: the machine, the code, the tables' words (any of lw_tbl by 'hts w (by decide +kernel)'), the script of L ints xs at the cell b, what the Statement gives of the start (any of its parts by flat_of_before) -/
def lw_At (p : Program) (s : State) (m : MethodId) (meth : Method) (c : Code) (b L : Nat) (xs : Nat → Int32) : Prop :=
  p.tables.exec = Jvm.exec ∧ c.code = code ∧ meth.sig.returnType = ret ∧ c.maxLocals = 7 ∧ s.vm.findClass R_law = some m.cls ∧ (∀ w ∈ lw_tbl, w.before #[Value.ref b] s = true) ∧ va_X b L xs s s.heap ∧ b < s.heap.size ∧ meth.locks = false ∧ (∀ x ∈ c.exceptionTable.toList, False) ∧ (Jvm.Cond.and given_1 narrow_1).before #[Value.ref b] s = true
/-! The law's own rows. (Own work.) -/
/-- the law's script stands at b -/
def mScr (X : mC) (b L : Nat) (xs : Nat → Int32) : Prop := match X with
  | (_, _, _, _, s, _, _, _, _, _, _, _, _, A) => va_X b L xs s s.heap ∧ b < s.heap.size ∧ ¬ A b
/-- where the law may end -/
def mLE (X : mC) (b : Nat) : Prop := match X with
  | (_, _, _, R, s, _, args, below, meth, _, Q, _, _, A) => meth.sig.returnType = ret ∧ R = room_1 ∧ args = #[Value.ref b] ∧ Q = lw_Z below #[Value.ref b] s ∧ ∀ q : Nat, A q → s.heap.size ≤ q
section MLAW
variable {X : mC} {own : String} {cc : ByteArray} {nL : Nat} {R : Room} {hh : List (Nat × Nat × Nat × Nat)} {tys : List (ClassId × FieldType)} {pc : Nat} {lv : List (Nat × Option Value)} {st : List Value} {ws : va_W} {k n : Nat} {b L : Nat} {xs : Nat → Int32}
theorem r_sld {i : Int32} (hX : mOK X own cc nL R hh tys) (hS : mScr X b L xs) (hin : vp_in i L) (hd : decode cc pc = .ok (.iaload, 1)) (kk : mV X (pc + 1) lv (.int (xs i.toNatClampNeg) :: st) ws k n) : mV X pc lv (.int i :: .ref b :: st) ws k n := by
  obtain ⟨p, l, e, R', s, m, args, below, meth, c, Q, D, tys', A⟩ := X
  obtain ⟨hx, hb, hml, hR, hown, hts, hK, hty, hlk, hA, hst, hlt, htab⟩ := hX
  obtain ⟨s1, s2, s3⟩ := hS
  exact fun H locs ls hP hD hS hl => va_sld hx hb s1 s2 s3 hS hin hd (kk H locs ls hP hD hS hl)
theorem r_slen (hX : mOK X own cc nL R hh tys) (hS : mScr X b L xs) (hd : decode cc pc = .ok (.arraylength, 1)) (kk : mV X (pc + 1) lv (.int (nI L) :: st) ws k n) : mV X pc lv (.ref b :: st) ws k n := by
  obtain ⟨p, l, e, R', s, m, args, below, meth, c, Q, D, tys', A⟩ := X
  obtain ⟨hx, hb, hml, hR, hown, hts, hK, hty, hlk, hA, hst, hlt, htab⟩ := hX
  obtain ⟨s1, s2, s3⟩ := hS
  exact fun H locs ls hP hD hS hl => va_slen hx hb s1 s2 s3 hS hd (kk H locs ls hP hD hS hl)
/-- script[i + c] -/
theorem r_arg {i0 c : Nat} {z : Int} (hX : mOK X own cc nL R hh tys) (hS : mScr X b L xs) (h0 : lget lv 0 = some (.ref b)) (h4 : lget lv 4 = some (.int (nI i0))) (hc : Int32.ofInt z = nI c) (hi : i0 + c < L) (hL : L < 2 ^ 31) (d0 : decode cc pc = .ok (.aload_n 0, 1)) (d1 : decode cc (pc + 1) = .ok (.iload 4, 2)) (d3 : decode cc (pc + 3) = .ok (.iconst z, 1)) (d4 : decode cc (pc + 4) = .ok (.iadd, 1)) (d5 : decode cc (pc + 5) = .ok (.iaload, 1)) (kk : mV X (pc + 6) lv (.int (xs (i0 + c)) :: st) ws k n) : mV X pc lv st ws k n := by
  refine r_aload_n hX d0 rfl h0 ?_
  refine r_iload hX d1 h4 ?_
  refine r_iconst hX d3 hc ?_
  refine r_iadd hX d4 ?_
  rw [nI_add]
  refine r_sld hX hS (vp_in_nI hi hL) d5 ?_
  rw [nI_clamp (by omega)]
  exact kk
theorem r_argB {i0 c : Nat} {z : Int} (hX : mOK X own cc nL R hh tys) (hS : mScr X b L xs) (h0 : lget lv 0 = some (.ref b)) (h4 : lget lv 4 = some (.int (nI i0))) (hc : (Int8.ofInt z).toInt32 = nI c) (hi : i0 + c < L) (hL : L < 2 ^ 31) (d0 : decode cc pc = .ok (.aload_n 0, 1)) (d1 : decode cc (pc + 1) = .ok (.iload 4, 2)) (d3 : decode cc (pc + 3) = .ok (.bipush z, 2)) (d5 : decode cc (pc + 5) = .ok (.iadd, 1)) (d6 : decode cc (pc + 6) = .ok (.iaload, 1)) (kk : mV X (pc + 7) lv (.int (xs (i0 + c)) :: st) ws k n) : mV X pc lv st ws k n := by
  refine r_aload_n hX d0 rfl h0 ?_
  refine r_iload hX d1 h4 ?_
  refine r_bipush hX d3 hc ?_
  refine r_iadd hX d5 ?_
  rw [nI_add]
  refine r_sld hX hS (vp_in_nI hi hL) d6 ?_
  rw [nI_clamp (by omega)]
  exact kk
/-- v != 0 -/
theorem r_ne0 {v : Int32} (hX : mOK X own cc nL R hh tys) (d0 : decode cc pc = .ok (.ifCond .eq 7, 3)) (d3 : decode cc (pc + 3) = .ok (.iconst 1, 1)) (d4 : decode cc (pc + 4) = .ok (.goto 4, 3)) (d7 : decode cc (pc + 7) = .ok (.iconst 0, 1)) (kk : mV X (pc + 8) lv (.int (if v = 0 then 0 else 1) :: st) ws k n) : mV X pc lv (.int v :: st) ws k n := by
  refine r_if_eq (tgt := pc + 7) hX d0 (by omega) (fun h => ?_) (fun h => ?_)
  · rw [if_pos h] at kk
    exact r_iconst (v := 0) hX d7 (by decide) kk
  · rw [if_neg h] at kk
    refine r_iconst (v := 1) hX d3 (by decide) ?_
    exact r_goto (tgt := pc + 8) hX d4 (by omega) kk
theorem r_lawret (hX : mOK X RL code 7 R hh tys) (hE : mLE X b) (hk : k ≤ 652172) (hn : n ≤ 7139589) (hd : decode code pc = .ok (.ireturn, 1)) : mV X pc lv [.int 1] ws k n := by
  obtain ⟨p, l, e, R', s, m, args, below, meth, c, Q, D, tys', A⟩ := X
  obtain ⟨hx, hb, hml, hR, hown, hts, hK, hty, hlk, hA, hst, hlt, htab⟩ := hX
  obtain ⟨hr, h2, h3, h4, h5⟩ := hE
  subst h2 h3 h4
  exact fun H locs ls hP hD hS hl => va_forget (fun q hq => h5 _ (hS.2.2 q hq)) (W.widen hk hn (lw_ret hx hb hr hlk hd))
end MLAW
theorem mmore {t L : Nat} (hL : L ≤ 3584) (h : ¬ (nI L - nI 7 < nI (7 * t))) (ht : 7 * t ≤ 3584) : 7 * t + 6 < L := by
  rw [Int32.lt_iff_toInt_lt, pk_sub_toInt (by omega) (by omega), nI_toInt (by omega)] at h
  omega
theorem dX4_thrown_w0 : (cX4_thrown.data.toList.drop 0).take 64 = [42, 180, 0, 29, 172] := by decide +kernel
theorem dX4_thrown_0 : decode cX4_thrown 0 = .ok (.aload_n 0, 1) := dk_42 (dq_lk dX4_thrown_w0 (r := 0) (x := 42) rfl)
theorem dX4_thrown_1 : decode cX4_thrown 1 = .ok (.getfield 29, 3) := dk_180 (dq_lk dX4_thrown_w0 (r := 1) (x := 180) rfl) (dq_lk dX4_thrown_w0 (r := 2) (x := 0) rfl) (dq_lk dX4_thrown_w0 (r := 3) (x := 29) rfl)
theorem dX4_thrown_4 : decode cX4_thrown 4 = .ok (.ireturn, 1) := dk_172 (dq_lk dX4_thrown_w0 (r := 4) (x := 172) rfl)
theorem c_X4_thrown (ad ae : Nat → Nat) (cs : ClassId × ClassId × ClassId) (K : mK) (J : mJ) (rest : va_W) : mCt (mTy cs) yX4_thrown cX4_thrown 1 (some .int) ⟨0, 0, 0, 0⟩ [.ref (ae 0)] (mRw ad ae cs K J rest) (fun v ws' => v = some (.int J.1.1) ∧ ws' = mRw ad ae cs K J rest) mNo := by
  refine mCt.of (by decide +kernel) (Nat.le_of_ble_eq_true rfl) (fun X hX hE => ?_)
  replace hX : mOK X RX4 cX4_thrown 1 ⟨0, 0, 0, 0⟩ [] (mTy cs) := hX
  refine r_aload_n hX dX4_thrown_0 rfl rfl ?_
  refine r_get hX kf_X4_29 14 rfl rfl dX4_thrown_1 ?_
  exact r_iret hX hE dX4_thrown_4 (Nat.le_of_ble_eq_true rfl) (Nat.le_of_ble_eq_true rfl) ⟨rfl, rfl⟩

