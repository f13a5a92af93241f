/-! THE LAW'S ROWS over the exact state. (Own work.) -/
theorem wf_oMon {S : mS} (h : sWF S) {d : Nat} {m : Int} (hd : d < 4) : sWF (oMon S d m).2 := by
  have h2 := h.2.2.1 d (by omega)
  unfold oMon
  split
  · exact h.oLoc hd h2.1 h2.2
  · exact h.rf
theorem wf_oPart {S : mS} (h : sWF S) {d : Nat} {a b c e : Int} (hd : d < 4) : sWF (oPart S d a b c e).2 := by
  have h2 := h.2.2.1 d (by omega)
  unfold oPart
  split
  · exact h.oLoc hd h2.1 h2.2
  · exact h.rf
theorem wf_oTime {S : mS} (h : sWF S) {d : Nat} {f num : Int} (hd : d < 4) : sWF (oTime S d f num).2 := by
  have h2 := h.2.2.1 d (by omega)
  unfold oTime
  split
  · exact wf_oPart h hd
  split
  · exact wf_oPart h hd
  split
  · exact wf_oPart h hd
  split
  · next q => exact h.oLoc hd q h2.2
  · exact h.rf
theorem wf_oDay {S : mS} (h : sWF S) {d : Nat} {f num : Int} (hd : d < 4) : sWF (oDay S d f num).2 := by
  have h2 := h.2.2.1 d (by omega)
  unfold oDay
  split
  · exact wf_oMon h hd
  split
  · split
    · exact wf_oMon h hd
    · exact h.rf
  split
  · split
    · exact h.oLoc hd h2.1 h2.2
    · exact h.rf
  split
  · exact h.oLoc hd h2.1 h2.2
  · exact h.rf
theorem wf_oSet {S : mS} (h : sWF S) {d : Nat} {f num : Int} (hd : d < 4) : sWF (oSet S d f num).2 := by
  unfold oSet
  split
  · exact wf_oDay h hd
  · exact wf_oTime h hd
theorem zNn_r {n u b : Int} (h : rNa n) : rNa (zNn n u b) := by
  unfold zNn
  split
  · show 0 ≤ (n + b) % 1000000000 ∧ (n + b) % 1000000000 ≤ 999999999
    omega
  · exact h
theorem wf_oMv {S : mS} (h : sWF S) {d : Nat} {u b : Int} (hd : d < 4) : sWF (oMv S d u b).2 := by
  have h2 := h.2.2.1 d (by omega)
  unfold oMv
  split
  · exact wf_oMon h hd
  split
  · exact wf_oMon h hd
  · exact h.oLoc hd (zNn_r h2.1) h2.2
theorem wf_oDate {S : mS} (h : sWF S) {d : Nat} {y dy s n o : Int} (hd : d < 4) (hn : rNa n) (ho : rOf o) : sWF (oDate S d y dy s n o).2 := by
  unfold oDate
  split
  · exact h.oLoc hd hn ho
  · exact h.rf
theorem wf_oOff {S : mS} (h : sWF S) {j : Nat} {a b c : Int} : sWF (oOff S j a b c).2 := by
  unfold oOff
  split
  · next q => exact h.of q.2.2
  · exact h.rf
/-- a wrapper's three ways -/
theorem zU9 {GI GA : Prop} {W : mS → Int64 → va_W} {S S2 : mS} {n0 N : Int64} {v : Option Value} {w : va_W} (h : ((GI ∧ GA) ∧ v = some (.int 0) ∧ w = W S2 N) ∨ (¬ GI ∧ v = some (.int 1) ∧ w = W S n0) ∨ (GI ∧ ¬ GA ∧ v = some (.int 2) ∧ w = W S n0)) : ∃ (r9 : Int32) (n9 : Int64) (S9 : mS), (((GI ∧ GA) ∧ r9 = 0 ∧ n9 = N ∧ S9 = S2) ∨ (¬ GI ∧ r9 = 1 ∧ S9 = S) ∨ ((GI ∧ ¬ GA) ∧ r9 = 2 ∧ S9 = S)) ∧ v = some (.int r9) ∧ w = W S9 n9 := by
  rcases h with ⟨g, a, b⟩ | ⟨g, a, b⟩ | ⟨g, g2, a, b⟩
  · exact ⟨_, _, _, Or.inl ⟨g, rfl, rfl, rfl⟩, a, b⟩
  · exact ⟨_, _, _, Or.inr (Or.inl ⟨g, rfl, rfl⟩), a, b⟩
  · exact ⟨_, _, _, Or.inr (Or.inr ⟨⟨g, g2⟩, rfl, rfl⟩), a, b⟩
/-- the reference's three ways -/
theorem zU8 {GI GA : Prop} {W : mS → Int32 → va_W} {S S2 : mS} {A : Int32} {v : Option Value} {w : va_W} (h : ∃ r : Int32, v = some (.int r) ∧ (((GI ∧ GA) ∧ r = A ∧ w = W S2 0) ∨ (¬ GI ∧ w = W S 1) ∨ (GI ∧ ¬ GA ∧ w = W S 2))) : ∃ (r8 th8 : Int32) (S8 : mS), (((GI ∧ GA) ∧ r8 = A ∧ th8 = 0 ∧ S8 = S2) ∨ (¬ GI ∧ th8 = 1 ∧ S8 = S) ∨ ((GI ∧ ¬ GA) ∧ th8 = 2 ∧ S8 = S)) ∧ v = some (.int r8) ∧ w = W S8 th8 := by
  obtain ⟨r, hv, ⟨g, a, b⟩ | ⟨g, b⟩ | ⟨g, g2, b⟩⟩ := h
  · exact ⟨r, _, _, Or.inl ⟨g, a, rfl, rfl⟩, hv, b⟩
  · exact ⟨r, _, _, Or.inr (Or.inl ⟨g, rfl, rfl⟩), hv, b⟩
  · exact ⟨r, _, _, Or.inr (Or.inr ⟨⟨g, g2⟩, rfl, rfl⟩), hv, b⟩
theorem zU8h {GI : Prop} {W : mS → Int32 → va_W} {S S2 : mS} {A : Int32} {v : Option Value} {w : va_W} (h : ∃ r : Int32, v = some (.int r) ∧ ((GI ∧ r = A ∧ w = W S2 0) ∨ (¬ GI ∧ w = W S 1))) : ∃ (r8 th8 : Int32) (S8 : mS), (((GI ∧ 0 ≤ (0 : Int)) ∧ r8 = A ∧ th8 = 0 ∧ S8 = S2) ∨ (¬ GI ∧ th8 = 1 ∧ S8 = S) ∨ ((GI ∧ ¬ 0 ≤ (0 : Int)) ∧ th8 = 2 ∧ S8 = S)) ∧ v = some (.int r8) ∧ w = W S8 th8 := by
  obtain ⟨r, hv, ⟨g, a, b⟩ | ⟨g, b⟩⟩ := h
  · exact ⟨r, _, _, Or.inl ⟨⟨g, by decide⟩, a, rfl, rfl⟩, hv, b⟩
  · exact ⟨r, _, _, Or.inr (Or.inl ⟨g, rfl, rfl⟩), hv, b⟩
/-- both went the same way -/
theorem zM {GI GA : Prop} {S S2 S9 S8 : mS} {r9 th8 r8 A : Int32} {n9 N : Int64} (h9 : ((GI ∧ GA) ∧ r9 = 0 ∧ n9 = N ∧ S9 = S2) ∨ (¬ GI ∧ r9 = 1 ∧ S9 = S) ∨ ((GI ∧ ¬ GA) ∧ r9 = 2 ∧ S9 = S)) (h8 : ((GI ∧ GA) ∧ r8 = A ∧ th8 = 0 ∧ S8 = S2) ∨ (¬ GI ∧ th8 = 1 ∧ S8 = S) ∨ ((GI ∧ ¬ GA) ∧ th8 = 2 ∧ S8 = S)) (hS : sWF S) (hw : GI ∧ GA → sWF S2) : S8 = S9 ∧ th8 = r9 ∧ (r9 = 0 → n9 = N ∧ r8 = A) ∧ sWF S9 := by
  rcases h9 with ⟨g, a, b, c⟩ | ⟨g, a, c⟩ | ⟨g, a, c⟩
  · rcases h8 with ⟨g2, a2, b2, c2⟩ | ⟨g2, b2, c2⟩ | ⟨g2, b2, c2⟩
    · exact ⟨c2.trans c.symm, b2.trans a.symm, fun _ => ⟨b, a2⟩, by rw [c]; exact hw g⟩
    · exact absurd g.1 g2
    · exact absurd g.2 g2.2
  · rcases h8 with ⟨g2, a2, b2, c2⟩ | ⟨g2, b2, c2⟩ | ⟨g2, b2, c2⟩
    · exact absurd g2.1 g
    · exact ⟨c2.trans c.symm, b2.trans a.symm, fun q => absurd (a.symm.trans q) (by decide), by rw [c]; exact hS⟩
    · exact absurd g2.1 g
  · rcases h8 with ⟨g2, a2, b2, c2⟩ | ⟨g2, b2, c2⟩ | ⟨g2, b2, c2⟩
    · exact absurd g2.2 g.2
    · exact absurd g.1 g2
    · exact ⟨c2.trans c.symm, b2.trans a.symm, fun q => absurd (a.symm.trans q) (by decide), by rw [c]; exact hS⟩
section MLAWZ
variable {X : mC} {own : String} {cc : ByteArray} {nL : Nat} {R : Room} {hh : List (Nat × Nat × Nat × Nat)} {tys : List (ClassId × FieldType)} {pc : Nat} {lv : List (Nat × Option Value)} {st : List Value} {ws : va_W} {k n : Nat} {b L : Nat} {xs : Nat → Int32}
theorem r_argZ {i0 c : Nat} {z : Int} (hX : mOK X own cc nL R hh tys) (hS : mScr X b L xs) (h0 : lget lv 0 = some (.ref b)) (h4 : lget lv 4 = some (.int (nI i0))) (hc : Int32.ofInt z = nI c) (hi : i0 + c < L) (hL : L < 2 ^ 31) (d0 : decode cc pc = .ok (.aload_n 0, 1)) (d1 : decode cc (pc + 1) = .ok (.iload 4, 2)) (d3 : decode cc (pc + 3) = .ok (.iconst z, 1)) (d4 : decode cc (pc + 4) = .ok (.iadd, 1)) (d5 : decode cc (pc + 5) = .ok (.iaload, 1)) (kk : mV X (pc + 6) lv (.int (iZ (xs (i0 + c)).toInt) :: st) ws k n) : mV X pc lv st ws k n :=
  r_arg hX hS h0 h4 hc hi hL d0 d1 d3 d4 d5 (by rw [iZ_self] at kk; exact kk)
theorem r_argBZ {i0 c : Nat} {z : Int} (hX : mOK X own cc nL R hh tys) (hS : mScr X b L xs) (h0 : lget lv 0 = some (.ref b)) (h4 : lget lv 4 = some (.int (nI i0))) (hc : (Int8.ofInt z).toInt32 = nI c) (hi : i0 + c < L) (hL : L < 2 ^ 31) (d0 : decode cc pc = .ok (.aload_n 0, 1)) (d1 : decode cc (pc + 1) = .ok (.iload 4, 2)) (d3 : decode cc (pc + 3) = .ok (.bipush z, 2)) (d5 : decode cc (pc + 5) = .ok (.iadd, 1)) (d6 : decode cc (pc + 6) = .ok (.iaload, 1)) (kk : mV X (pc + 7) lv (.int (iZ (xs (i0 + c)).toInt) :: st) ws k n) : mV X pc lv st ws k n :=
  r_argB hX hS h0 h4 hc hi hL d0 d1 d3 d5 d6 (by rw [iZ_self] at kk; exact kk)
theorem r_ne0Z {a : Int} (hX : mOK X own cc nL R hh tys) (ha : rJ a) (d0 : decode cc pc = .ok (.ifCond .eq 7, 3)) (d3 : decode cc (pc + 3) = .ok (.iconst 1, 1)) (d4 : decode cc (pc + 4) = .ok (.goto 4, 3)) (d7 : decode cc (pc + 7) = .ok (.iconst 0, 1)) (kk : mV X (pc + 8) lv (.int (b2i (decide (¬ a = 0))) :: st) ws k n) : mV X pc lv (.int (iZ a) :: st) ws k n := by
  refine r_ne0 hX d0 d3 d4 d7 ?_
  have t : iZ a = 0 ↔ a = 0 := iZ_inj ha (b := 0) (by omega)
  have e : (if iZ a = 0 then (0 : Int32) else 1) = b2i (decide (¬ a = 0)) := by
    by_cases q : a = 0
    · rw [if_pos (t.mpr q), decide_eq_false (fun h => h q)]
      rfl
    · rw [if_neg (fun h => q (t.mp h)), decide_eq_true q]
      rfl
  rw [e]
  exact kk
end MLAWZ

