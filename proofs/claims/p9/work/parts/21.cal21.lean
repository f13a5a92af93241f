/-! The reference, its contracts (rows by a program of this repository). -/
/-! THE REFERENCE'S WORLD, behind the class's. (Own work.) -/
/-- thrown, knocks, refusals; offsets; moments; days, seconds, nanos, owns -/
abbrev mJ : Type := (Int32 × Int32 × Int32) × (Nat → Int32) × (Nat → Int64) × (Nat → Int32) × (Nat → Int32) × (Nat → Int32) × (Nat → Int32)
def mMd (ae : Nat → Nat) (cs : ClassId × ClassId × ClassId) (J : mJ) (rest : va_W) : va_W :=
  (ae 0, .inr (5, [.int J.1.1, .int J.1.2.1, .int J.1.2.2, .ref (ae 1), .ref (ae 2), .ref (ae 3), .ref (ae 4), .ref (ae 5), .ref (ae 6)])) ::
  (ae 1, .inl (cs.1, 4, .inl J.2.1)) :: (ae 2, .inl (cs.2.1, 4, .inr (.inl J.2.2.1))) :: (ae 3, .inl (cs.1, 7, .inl J.2.2.2.1)) :: (ae 4, .inl (cs.1, 7, .inl J.2.2.2.2.1)) :: (ae 5, .inl (cs.1, 7, .inl J.2.2.2.2.2.1)) :: (ae 6, .inl (cs.1, 7, .inl J.2.2.2.2.2.2)) :: rest
def mRw (ad ae : Nat → Nat) (cs : ClassId × ClassId × ClassId) (K : mK) (J : mJ) (rest : va_W) : va_W := mWd ad cs K (mMd ae cs J rest)
/-- every day lies in the years 1910 to 2030 -/
def mWF (J : mJ) : Prop := ∀ k, k < 7 → ∃ d : Int, J.2.2.2.1 k = iZ d ∧ -21915 ≤ d ∧ d ≤ 22279
theorem mWF.set {J : mJ} {f : Nat → Int32} (h : mWF J) (hf : J.2.2.2.1 = f) {i : Nat} {x : Int32} {d : Int} (hx : x = iZ d) (h1 : -21915 ≤ d) (h2 : d ≤ 22279) : ∀ k, k < 7 → ∃ d : Int, (upd f i x) k = iZ d ∧ -21915 ≤ d ∧ d ≤ 22279 := by
  intro k hk
  by_cases e : k = i
  · exact ⟨d, by simp [upd, e, hx], h1, h2⟩
  · obtain ⟨d', h3, h4⟩ := h k hk
    exact ⟨d', by rw [← hf]; simp [upd, e, h3], h4⟩
theorem mRw_app {ad ae : Nat → Nat} {cs : ClassId × ClassId × ClassId} {K : mK} {J : mJ} {rest l : va_W} : mRw ad ae cs K J rest ++ l = mRw ad ae cs K J (rest ++ l) := rfl
theorem mLast {l : va_W} {x : Nat × va_E} : (l ++ [x])[l.length]? = some x := by simp
theorem mSetLast {l : va_W} {x y : Nat × va_E} : (l ++ [x]).set l.length y = l ++ [y] := by simp
theorem ka_int : Cond.arrayClass .int ∈ mW := mW_at 91 (by decide +kernel) (by decide +kernel)
theorem ka_long : Cond.arrayClass .long ∈ mW := mW_at 92 (by decide +kernel) (by decide +kernel)
section MNA
variable {X : mC} {own : String} {cc : ByteArray} {nL : Nat} {R : Room} {hh : List (Nat × Nat × Nat × Nat)} {tys : List (ClassId × FieldType)} {pc : Nat} {lv : List (Nat × Option Value)} {st : List Value} {ws ws' : va_W} {k n : Nat}
theorem r_eqw (h : ws = ws') (kk : mV X pc lv st ws' k n) : mV X pc lv st ws k n := h ▸ kk
theorem r_drop {l : va_W} (kk : mV X pc lv st ws k n) : mV X pc lv st (ws ++ l) k n := by
  refine r_take ws.length ?_
  rw [List.take_left]
  exact kk
theorem r_newai {N : Nat} {cA : ClassId} (hX : mOK X own cc nL R hh tys) (t0 : Nat) (ht : tys[t0]? = some (cA, .int)) (hN : N < 1000) (hd : decode cc pc = .ok (.newarray .int, 2)) (hc : k + 1 ≤ R.cells) (hs : n + N ≤ R.slots) (kk : ∀ q, mV X (pc + 2) lv (.ref q :: st) (ws ++ [(q, .inl (cA, N, .inl (fun _ => 0)))]) (k + 1) (n + N)) : mV X pc lv (.int (nI N) :: st) ws k n := by
  obtain ⟨p, l, e, R', s, m, args, below, meth, c, Q, D, tys', A⟩ := X
  obtain ⟨hx, hb, hml, hR, hown, hts, hK, hty, hlk, hA, hst, hlt, htab⟩ := hX
  subst hR
  refine fun H locs ls hP hD hS hl => va_newa (atype := .int) hx hb (hts _ ka_int) rfl hK hP hD hS hA (a0 := (N, .inl (fun _ => 0))) (N' := N) (fun cA => by rw [vp_cell_i]; rfl) (nI_pos (by omega)) (nI_clamp (by omega)) (Nat.le_trans (Nat.mul_le_mul_right _ (Nat.le_of_lt hN)) (by decide)) hc hs hd (fun q cA' H1 hK1 hP1 hD1 hS1 => ?_)
  have e : cA' = cA := by
    have h1 := (hK.2 t0 _ ht).2
    have h2 := (hK1.2 tys.length (cA', newarray.typeOf ArrayType.int) (by simp)).2
    exact Option.some.inj (h2.symm.trans h1)
  subst e
  exact kk q H1 locs ls hP1 hD1 hS1 hl
end MNA
