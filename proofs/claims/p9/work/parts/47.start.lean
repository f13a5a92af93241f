/-! What the Statement gives of the start, as the walks want it. (Own work; rows by a program of this repository.) -/
def mFl : List Cond := flatC (Jvm.Cond.and given_1 narrow_1)
theorem mN_at {args : Array Value} {s : State} (hv : (Jvm.Cond.and given_1 narrow_1).before args s = true) (i : Nat) {c : Cond} (h : mFl[i]? = some c) : c.before args s = true := flat_of_before _ hv _ (List.mem_of_getElem? h)
set_option maxHeartbeats 1000000 in
set_option maxRecDepth 20000 in
theorem mfo_a : (mFl.drop 14).take 100 = (List.range 100).map (fun j : Nat => Cond.eq (.elem (.static "java/lang/Integer" "DigitOnes" "[B") (.int (Int32.ofNat j))) (.int (nI (48 + j % 10)))) := rfl
theorem mfo : ∀ j, j < 100 → mFl[14 + j]? = some (Cond.eq (.elem (.static "java/lang/Integer" "DigitOnes" "[B") (.int (Int32.ofNat j))) (.int (nI (48 + j % 10)))) := by
  intro j hj
  have h : ((mFl.drop 14).take 100)[j]? = some (Cond.eq (.elem (.static "java/lang/Integer" "DigitOnes" "[B") (.int (Int32.ofNat j))) (.int (nI (48 + j % 10)))) := by
    rw [mfo_a, List.getElem?_map, List.getElem?_range hj]
    rfl
  rw [List.getElem?_take, if_pos hj, List.getElem?_drop] at h
  exact h
set_option maxHeartbeats 1000000 in
set_option maxRecDepth 20000 in
theorem mft_a : (mFl.drop 117).take 100 = (List.range 100).map (fun j : Nat => Cond.eq (.elem (.static "java/lang/Integer" "DigitTens" "[B") (.int (Int32.ofNat j))) (.int (nI (48 + j / 10)))) := rfl
theorem mft : ∀ j, j < 100 → mFl[117 + j]? = some (Cond.eq (.elem (.static "java/lang/Integer" "DigitTens" "[B") (.int (Int32.ofNat j))) (.int (nI (48 + j / 10)))) := by
  intro j hj
  have h : ((mFl.drop 117).take 100)[j]? = some (Cond.eq (.elem (.static "java/lang/Integer" "DigitTens" "[B") (.int (Int32.ofNat j))) (.int (nI (48 + j / 10)))) := by
    rw [mft_a, List.getElem?_map, List.getElem?_range hj]
    rfl
  rw [List.getElem?_take, if_pos hj, List.getElem?_drop] at h
  exact h
section MSTART
variable {args : Array Value} {s : State} {A : Nat → Prop}
theorem mTab_start {C n : String} {f : Nat → Int32} (hl : (Cond.laysStatic C n "[B").before args s = true) (hini : (Cond.initialized C).before args s = true) (harr : (Cond.arrayOf (.static C n "[B") .byte).before args s = true) (hlen : (Cond.eq (.length (.static C n "[B")) (.int (Int32.ofNat 100))).before args s = true) (hel : ∀ j, j < 100 → (Cond.eq (.elem (.static C n "[B") (.int (Int32.ofNat j))) (.int (f j))).before args s = true) (hA : ∀ a : Nat, a < s.heap.size → ¬ A a) : mTab C n f A s s.heap := by
  obtain ⟨t, h1, h2⟩ := va_Tof (N := 100) (f := fun j => .int (f j)) (by decide) harr (va_eqt hlen) (fun j hj => va_eqt (hel j hj)) hA
  exact ⟨t, va_Zof hl hini h1 hA, h2⟩
theorem mStr_start {own tx : String} {k : Nat} (h1 : (Cond.stringRef own k tx).before args s = true) (h2 : (Cond.exactly (.string own k) "java/lang/String").before args s = true) : ∃ a : Nat, vk_R own k tx a s ∧ (Term.string own k).eval args s none [] s = some (.ref a) := by
  obtain ⟨a2, c, cA, kA, q1, -⟩ := Cond.exactly_spec (args := args) (first := s) (o := none) (s := s) (idx := []) h2
  exact ⟨a2, vk_R.of h1 q1, q1⟩
theorem mst_start (hv : (Jvm.Cond.and given_1 narrow_1).before args s = true) (hts : ∀ w ∈ lw_tbl, w.before args s = true) (hA : ∀ a : Nat, a < s.heap.size → ¬ A a) : mst A s := by
  have tb : ∀ (i : Nat) {w : Cond}, lw_tbl[i]? = some w → w.before args s = true := fun i w h => hts w (List.mem_of_getElem? h)
  obtain ⟨a1, h1, -⟩ := mStr_start (own := RX2) (k := 252) (tx := "there is no such one") (tb 201 (by decide +kernel)) (mN_at hv 231 rfl)
  obtain ⟨a2, h2, -⟩ := mStr_start (own := RX2) (k := 259) (tx := "a number is not within its limits") (tb 402 (by decide +kernel)) (mN_at hv 255 rfl)
  obtain ⟨a, h3, q3⟩ := mStr_start (own := RX4) (k := 119) (tx := "") (tb 1176 (by decide +kernel)) (mN_at hv 302 rfl)
  obtain ⟨v, q4, h4⟩ := va_Tof (s := s) (args := args) (A := A) (tm := .field (.string RX4 119) "java/lang/String" "value" "[B") (ty := .byte) (N := 0) (f := fun _ => .int 0) (by decide) (mN_at hv 304 rfl) (va_eqt (z := Int32.ofNat 0) (mN_at hv 305 rfl)) (fun j hj => absurd hj (Nat.not_lt_zero j)) hA
  have hn : (Cond.initialized "java/lang/Integer").before args s = true := tb 60 (by decide +kernel)
  have ht : (Cond.initialized Bundle.tN).before args s = true := tb 44 (by decide +kernel)
  refine ⟨⟨a1, h1⟩, ⟨a2, h2⟩, vx_Zqof (tb 188 (by decide +kernel)) ht (mN_at hv 4 rfl) hA, vx_Zqof (tb 190 (by decide +kernel)) ht (mN_at hv 5 rfl) hA, va_Zof (tb 533 (by decide +kernel)) (tb 52 (by decide +kernel)) (va_eqi (mN_at hv 6 rfl)) hA, mTab_start (tb 744 (by decide +kernel)) hn (mN_at hv 12 rfl) (mN_at hv 13 rfl) (fun j hj => mN_at hv _ (mfo j hj)) hA, mTab_start (tb 746 (by decide +kernel)) hn (mN_at hv 115 rfl) (mN_at hv 116 rfl) (fun j hj => mN_at hv _ (mft j hj)) hA, a, v, h3, va_Oof (mN_at hv 302 rfl) q3 hA, vk_OFof q3 (va_eqt (mN_at hv 303 rfl)) hA, vk_OFof q3 q4 hA, h4⟩
theorem mNc_start (hv : (Jvm.Cond.and given_1 narrow_1).before args s = true) : mNc A s := va_Nc.of (mN_at hv 221 rfl)
theorem marr_start {ty : FieldType} (h : (Cond.arrayClass ty).before args s = true) (hra : ∀ c : ClassId, s.vm.findClass ("[" ++ ty.toString) = some c → va_RA s c ty) : ∃ cA : ClassId, ArrOfT s cA ty ∧ va_RA s cA ty := by
  obtain ⟨c, k9, comp, h1, h2, h3⟩ := Cond.arrayClass_spec h
  exact ⟨c, fun n z => ⟨fun k h => (by cases h), k9, h2, comp, h3⟩, hra c h1⟩
theorem mcs_start (hm : ∀ w ∈ mW, w.before args s = true) : ∃ cs : ClassId × ClassId × ClassId, ∀ (k : Nat) (q : ClassId × FieldType), (mTy cs)[k]? = some q → ArrOfT s q.1 q.2 ∧ va_RA s q.1 q.2 := by
  obtain ⟨c1, h1⟩ := marr_start (ty := .int) (hm _ ka_int) (fun c h => h)
  obtain ⟨c2, h2⟩ := marr_start (ty := .long) (hm _ ka_long) (fun c h => h)
  obtain ⟨comp, c3, k, g1, g2, g3, g4, g5⟩ := Cond.arrayOver_spec (hm _ kao)
  refine ⟨(c1, c2, c3), fun k9 q hq => ?_⟩
  match k9, hq with
  | 0, hq => cases hq; exact h1
  | 1, hq => cases hq; exact h2
  | 2, hq => cases hq; exact ⟨fun n z => ⟨fun k h => (by cases h), k, g3, comp, g4⟩, k, comp, g3, g4, g1, g5⟩
  | k9 + 3, hq => exact absurd hq (fun h => nomatch h)
theorem mkn_start (hm : ∀ w ∈ mW, w.before args s = true) : ∃ D : va_G, ∀ (c : Nat) (q : vw_C), vwCl[c]? = some q → u_Kn s q.1 q.2.1 q.2.2 (D.1 c) (D.2 c) := by
  obtain ⟨c0, i0, n0⟩ := u_known (C := RJ0) (T := TJ0) (N := 4) (n := 4) hm kinJ0 (hm _ (mW_at 696 (by decide +kernel) (by decide +kernel)))
  obtain ⟨c1, i1, n1⟩ := u_known (C := RJ4) (T := TJ4) (N := 4) (n := 4) hm kinJ4 (hm _ (mW_at 524 (by decide +kernel) (by decide +kernel)))
  obtain ⟨c2, i2, n2⟩ := u_known (C := RX1) (T := TX1) (N := 3) (n := 3) hm kinX1 (hm _ ki_X1)
  obtain ⟨c3, i3, n3⟩ := u_known (C := RX2) (T := TX2) (N := 8) (n := 8) hm kinX2 (hm _ ki_X2)
  obtain ⟨c4, i4, n4⟩ := u_known (C := RX3) (T := TX3) (N := 2) (n := 2) hm kinX3 (hm _ ki_X3)
  obtain ⟨c5, i5, n5⟩ := u_known (C := RX4) (T := TX4) (N := 9) (n := 9) hm kinX4 (hm _ ki_X4)
  refine ⟨(fun k => [c0, c1, c2, c3, c4, c5].getD k c0, fun k => [i0, i1, i2, i3, i4, i5].getD k i0), fun k q hq => ?_⟩
  match k, hq with
  | 0, hq => cases hq; exact n0
  | 1, hq => cases hq; exact n1
  | 2, hq => cases hq; exact n2
  | 3, hq => cases hq; exact n3
  | 4, hq => cases hq; exact n4
  | 5, hq => cases hq; exact n5
  | k + 6, hq => exact absurd hq (fun h => nomatch h)
end MSTART

