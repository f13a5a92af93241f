/-! The reference, its contracts (rows by a program of this repository). -/
theorem nI_of3 {x : Int32} {N : Nat} (h1 : 0 ≤ x) {M : Int32} (h2 : x ≤ M) (hM : M.toInt < N := by decide) : ∃ j, j < N ∧ x = nI j := by
  obtain ⟨j, hj, rfl⟩ := nI_of (Int32.not_lt.mpr h1)
  refine ⟨j, ?_, rfl⟩
  have h3 := Int32.le_iff_toInt_le.mp h2
  rw [nI_toInt hj] at h3
  omega
theorem nI_not3 {x : Int32} {N : Nat} {M : Int32} (hM : M.toInt = (N : Int) - 1) (h : ¬ (0 ≤ x ∧ x ≤ M)) : ¬ vp_in x N := by
  intro q
  have q2 := vp_in_iff.mp q
  refine h ⟨Int32.le_iff_toInt_le.mpr (by simpa using q2.1), Int32.le_iff_toInt_le.mpr (by omega)⟩
theorem fnn {x : Int32} : ¬ f_isWithin x.toInt64 0 3 = 0 → ∃ j, j < 4 ∧ x = nI j := by
  intro h
  have h2 := Classical.not_not.mp (fun q => h ((fwi (x := x) (a' := 0) (b' := 3) (by decide) (by decide)).mpr q))
  exact nI_of3 h2.1 h2.2
theorem fnc {x : Int32} : ¬ f_isWithin x.toInt64 0 2 = 0 → ∃ j, j < 3 ∧ x = nI j := by
  intro h
  have h2 := Classical.not_not.mp (fun q => h ((fwi (x := x) (a' := 0) (b' := 2) (by decide) (by decide)).mpr q))
  exact nI_of3 (N := 3) h2.1 h2.2
theorem dX4_isNone_w0 : (cX4_isNone.data.toList.drop 0).take 64 = [26, 133, 9, 20, 0, 36, 184, 0, 38, 154, 0, 7, 4, 167, 0, 4, 3, 172] := by decide +kernel
theorem dX4_isNone_0 : decode cX4_isNone 0 = .ok (.iload_n 0, 1) := dk_26 (dq_lk dX4_isNone_w0 (r := 0) (x := 26) rfl)
theorem dX4_isNone_1 : decode cX4_isNone 1 = .ok (.i2l, 1) := dk_133 (dq_lk dX4_isNone_w0 (r := 1) (x := 133) rfl)
theorem dX4_isNone_2 : decode cX4_isNone 2 = .ok (.lconst 0, 1) := dk_9 (dq_lk dX4_isNone_w0 (r := 2) (x := 9) rfl)
theorem dX4_isNone_3 : decode cX4_isNone 3 = .ok (.ldc2_w 36, 3) := dk_20 (dq_lk dX4_isNone_w0 (r := 3) (x := 20) rfl) (dq_lk dX4_isNone_w0 (r := 4) (x := 0) rfl) (dq_lk dX4_isNone_w0 (r := 5) (x := 36) rfl)
theorem dX4_isNone_6 : decode cX4_isNone 6 = .ok (.invokestatic 38, 3) := dk_184 (dq_lk dX4_isNone_w0 (r := 6) (x := 184) rfl) (dq_lk dX4_isNone_w0 (r := 7) (x := 0) rfl) (dq_lk dX4_isNone_w0 (r := 8) (x := 38) rfl)
theorem dX4_isNone_9 : decode cX4_isNone 9 = .ok (.ifCond .ne 7, 3) := dk_154 (dq_lk dX4_isNone_w0 (r := 9) (x := 154) rfl) (dq_lk dX4_isNone_w0 (r := 10) (x := 0) rfl) (dq_lk dX4_isNone_w0 (r := 11) (x := 7) rfl) (by decide +kernel)
theorem dX4_isNone_12 : decode cX4_isNone 12 = .ok (.iconst 1, 1) := dk_4 (dq_lk dX4_isNone_w0 (r := 12) (x := 4) rfl)
theorem dX4_isNone_13 : decode cX4_isNone 13 = .ok (.goto 4, 3) := dk_167 (dq_lk dX4_isNone_w0 (r := 13) (x := 167) rfl) (dq_lk dX4_isNone_w0 (r := 14) (x := 0) rfl) (dq_lk dX4_isNone_w0 (r := 15) (x := 4) rfl) (by decide +kernel)
theorem dX4_isNone_16 : decode cX4_isNone 16 = .ok (.iconst 0, 1) := dk_3 (dq_lk dX4_isNone_w0 (r := 16) (x := 3) rfl)
theorem dX4_isNone_17 : decode cX4_isNone 17 = .ok (.ireturn, 1) := dk_172 (dq_lk dX4_isNone_w0 (r := 17) (x := 172) rfl)
theorem c_X4_isNone (tys : List (ClassId × FieldType)) (ws : va_W) (p0 : Int32) : mCt tys yX4_isNone cX4_isNone 1 (some .boolean) ⟨1, 0, 0, 25⟩ [.int p0] ws (fun v ws' => ∃ r, ((r = 0 ∧ ∃ j, j < 4 ∧ p0 = nI j) ∨ (r = 1 ∧ ¬ vp_in p0 4)) ∧ v = some (.int r) ∧ ws' = ws) mNo := by
  refine mCt.of (by decide +kernel) (Nat.le_of_ble_eq_true rfl) (fun X hX hE => ?_)
  replace hX : mOK X RX4 cX4_isNone 1 ⟨1, 0, 0, 25⟩ [] tys := hX
  refine r_iload_n hX dX4_isNone_0 rfl rfl ?_
  refine r_i2l hX dX4_isNone_1 ?_
  refine r_lconst (v := 0) hX dX4_isNone_2 (by decide) ?_
  refine r_ldc2 hX kc_X4_36 dX4_isNone_3 ?_
  refine r_callS hX (c_X4_isIn _ _ _ _ _) ks_X4_38 rfl rfl (Nat.le_of_ble_eq_true rfl) ⟨(Nat.le_of_ble_eq_true rfl), (Nat.le_of_ble_eq_true rfl)⟩ ⟨(Nat.le_of_ble_eq_true rfl), (Nat.le_of_ble_eq_true rfl)⟩ dX4_isNone_6 (fun _ _ z => False.elim z) (fun v9 ws9 h => ?_)
  obtain ⟨rfl, hw9⟩ := h
  subst ws9
  dsimp only [mPush]
  refine r_if_ne (tgt := 16) hX dX4_isNone_9 (by decide) (fun c => ?_) (fun c => ?_)
  · refine r_iconst (v := 0) hX dX4_isNone_16 (by decide) ?_
    exact r_zret hX hE dX4_isNone_17 (by decide) (Nat.le_of_ble_eq_true rfl) (Nat.le_of_ble_eq_true rfl) ⟨0, Or.inl ⟨rfl, fnn c⟩, rfl, rfl⟩
  · refine r_iconst (v := 1) hX dX4_isNone_12 (by decide) ?_
    refine r_goto (tgt := 17) hX dX4_isNone_13 (by decide) ?_
    exact r_zret hX hE dX4_isNone_17 (by decide) (Nat.le_of_ble_eq_true rfl) (Nat.le_of_ble_eq_true rfl) ⟨1, Or.inr ⟨rfl, nI_not3 (M := 3) (by decide) ((fwi (by decide) (by decide)).mp (Classical.not_not.mp c))⟩, rfl, rfl⟩
theorem dX4_isNoClock_w0 : (cX4_isNoClock.data.toList.drop 0).take 64 = [26, 133, 9, 20, 0, 42, 184, 0, 38, 154, 0, 7, 4, 167, 0, 4, 3, 172] := by decide +kernel
theorem dX4_isNoClock_0 : decode cX4_isNoClock 0 = .ok (.iload_n 0, 1) := dk_26 (dq_lk dX4_isNoClock_w0 (r := 0) (x := 26) rfl)
theorem dX4_isNoClock_1 : decode cX4_isNoClock 1 = .ok (.i2l, 1) := dk_133 (dq_lk dX4_isNoClock_w0 (r := 1) (x := 133) rfl)
theorem dX4_isNoClock_2 : decode cX4_isNoClock 2 = .ok (.lconst 0, 1) := dk_9 (dq_lk dX4_isNoClock_w0 (r := 2) (x := 9) rfl)
theorem dX4_isNoClock_3 : decode cX4_isNoClock 3 = .ok (.ldc2_w 42, 3) := dk_20 (dq_lk dX4_isNoClock_w0 (r := 3) (x := 20) rfl) (dq_lk dX4_isNoClock_w0 (r := 4) (x := 0) rfl) (dq_lk dX4_isNoClock_w0 (r := 5) (x := 42) rfl)
theorem dX4_isNoClock_6 : decode cX4_isNoClock 6 = .ok (.invokestatic 38, 3) := dk_184 (dq_lk dX4_isNoClock_w0 (r := 6) (x := 184) rfl) (dq_lk dX4_isNoClock_w0 (r := 7) (x := 0) rfl) (dq_lk dX4_isNoClock_w0 (r := 8) (x := 38) rfl)
theorem dX4_isNoClock_9 : decode cX4_isNoClock 9 = .ok (.ifCond .ne 7, 3) := dk_154 (dq_lk dX4_isNoClock_w0 (r := 9) (x := 154) rfl) (dq_lk dX4_isNoClock_w0 (r := 10) (x := 0) rfl) (dq_lk dX4_isNoClock_w0 (r := 11) (x := 7) rfl) (by decide +kernel)
theorem dX4_isNoClock_12 : decode cX4_isNoClock 12 = .ok (.iconst 1, 1) := dk_4 (dq_lk dX4_isNoClock_w0 (r := 12) (x := 4) rfl)
theorem dX4_isNoClock_13 : decode cX4_isNoClock 13 = .ok (.goto 4, 3) := dk_167 (dq_lk dX4_isNoClock_w0 (r := 13) (x := 167) rfl) (dq_lk dX4_isNoClock_w0 (r := 14) (x := 0) rfl) (dq_lk dX4_isNoClock_w0 (r := 15) (x := 4) rfl) (by decide +kernel)
theorem dX4_isNoClock_16 : decode cX4_isNoClock 16 = .ok (.iconst 0, 1) := dk_3 (dq_lk dX4_isNoClock_w0 (r := 16) (x := 3) rfl)
theorem dX4_isNoClock_17 : decode cX4_isNoClock 17 = .ok (.ireturn, 1) := dk_172 (dq_lk dX4_isNoClock_w0 (r := 17) (x := 172) rfl)
theorem c_X4_isNoClock (tys : List (ClassId × FieldType)) (ws : va_W) (p0 : Int32) : mCt tys yX4_isNoClock cX4_isNoClock 1 (some .boolean) ⟨1, 0, 0, 25⟩ [.int p0] ws (fun v ws' => ∃ r, ((r = 0 ∧ ∃ j, j < 3 ∧ p0 = nI j) ∨ (r = 1 ∧ ¬ vp_in p0 3)) ∧ v = some (.int r) ∧ ws' = ws) mNo := by
  refine mCt.of (by decide +kernel) (Nat.le_of_ble_eq_true rfl) (fun X hX hE => ?_)
  replace hX : mOK X RX4 cX4_isNoClock 1 ⟨1, 0, 0, 25⟩ [] tys := hX
  refine r_iload_n hX dX4_isNoClock_0 rfl rfl ?_
  refine r_i2l hX dX4_isNoClock_1 ?_
  refine r_lconst (v := 0) hX dX4_isNoClock_2 (by decide) ?_
  refine r_ldc2 hX kc_X4_42 dX4_isNoClock_3 ?_
  refine r_callS hX (c_X4_isIn _ _ _ _ _) ks_X4_38 rfl rfl (Nat.le_of_ble_eq_true rfl) ⟨(Nat.le_of_ble_eq_true rfl), (Nat.le_of_ble_eq_true rfl)⟩ ⟨(Nat.le_of_ble_eq_true rfl), (Nat.le_of_ble_eq_true rfl)⟩ dX4_isNoClock_6 (fun _ _ z => False.elim z) (fun v9 ws9 h => ?_)
  obtain ⟨rfl, hw9⟩ := h
  subst ws9
  dsimp only [mPush]
  refine r_if_ne (tgt := 16) hX dX4_isNoClock_9 (by decide) (fun c => ?_) (fun c => ?_)
  · refine r_iconst (v := 0) hX dX4_isNoClock_16 (by decide) ?_
    exact r_zret hX hE dX4_isNoClock_17 (by decide) (Nat.le_of_ble_eq_true rfl) (Nat.le_of_ble_eq_true rfl) ⟨0, Or.inl ⟨rfl, fnc c⟩, rfl, rfl⟩
  · refine r_iconst (v := 1) hX dX4_isNoClock_12 (by decide) ?_
    refine r_goto (tgt := 17) hX dX4_isNoClock_13 (by decide) ?_
    exact r_zret hX hE dX4_isNoClock_17 (by decide) (Nat.le_of_ble_eq_true rfl) (Nat.le_of_ble_eq_true rfl) ⟨1, Or.inr ⟨rfl, nI_not3 (M := 2) (by decide) ((fwi (by decide) (by decide)).mp (Classical.not_not.mp c))⟩, rfl, rfl⟩
theorem mnone0 {r : Int32} {A B : Prop} (h : (r = 0 ∧ A) ∨ (r = 1 ∧ B)) (c : r = 0) : A := by
  rcases h with h | h
  · exact h.2
  · rw [h.1] at c
    exact absurd c (by decide)
theorem dX4_isStopped_w0 : (cX4_isStopped.data.toList.drop 0).take 64 = [42, 27, 153, 0, 7, 4, 167, 0, 12, 28, 153, 0, 7, 5, 167, 0, 4, 3, 181, 0, 29, 42, 180, 0, 29, 158, 0, 7, 4, 167, 0, 4, 3, 172] := by decide +kernel
theorem dX4_isStopped_0 : decode cX4_isStopped 0 = .ok (.aload_n 0, 1) := dk_42 (dq_lk dX4_isStopped_w0 (r := 0) (x := 42) rfl)
theorem dX4_isStopped_1 : decode cX4_isStopped 1 = .ok (.iload_n 1, 1) := dk_27 (dq_lk dX4_isStopped_w0 (r := 1) (x := 27) rfl)
theorem dX4_isStopped_2 : decode cX4_isStopped 2 = .ok (.ifCond .eq 7, 3) := dk_153 (dq_lk dX4_isStopped_w0 (r := 2) (x := 153) rfl) (dq_lk dX4_isStopped_w0 (r := 3) (x := 0) rfl) (dq_lk dX4_isStopped_w0 (r := 4) (x := 7) rfl) (by decide +kernel)
theorem dX4_isStopped_5 : decode cX4_isStopped 5 = .ok (.iconst 1, 1) := dk_4 (dq_lk dX4_isStopped_w0 (r := 5) (x := 4) rfl)
theorem dX4_isStopped_6 : decode cX4_isStopped 6 = .ok (.goto 12, 3) := dk_167 (dq_lk dX4_isStopped_w0 (r := 6) (x := 167) rfl) (dq_lk dX4_isStopped_w0 (r := 7) (x := 0) rfl) (dq_lk dX4_isStopped_w0 (r := 8) (x := 12) rfl) (by decide +kernel)
theorem dX4_isStopped_9 : decode cX4_isStopped 9 = .ok (.iload_n 2, 1) := dk_28 (dq_lk dX4_isStopped_w0 (r := 9) (x := 28) rfl)
theorem dX4_isStopped_10 : decode cX4_isStopped 10 = .ok (.ifCond .eq 7, 3) := dk_153 (dq_lk dX4_isStopped_w0 (r := 10) (x := 153) rfl) (dq_lk dX4_isStopped_w0 (r := 11) (x := 0) rfl) (dq_lk dX4_isStopped_w0 (r := 12) (x := 7) rfl) (by decide +kernel)
theorem dX4_isStopped_13 : decode cX4_isStopped 13 = .ok (.iconst 2, 1) := dk_5 (dq_lk dX4_isStopped_w0 (r := 13) (x := 5) rfl)
theorem dX4_isStopped_14 : decode cX4_isStopped 14 = .ok (.goto 4, 3) := dk_167 (dq_lk dX4_isStopped_w0 (r := 14) (x := 167) rfl) (dq_lk dX4_isStopped_w0 (r := 15) (x := 0) rfl) (dq_lk dX4_isStopped_w0 (r := 16) (x := 4) rfl) (by decide +kernel)
theorem dX4_isStopped_17 : decode cX4_isStopped 17 = .ok (.iconst 0, 1) := dk_3 (dq_lk dX4_isStopped_w0 (r := 17) (x := 3) rfl)
theorem dX4_isStopped_18 : decode cX4_isStopped 18 = .ok (.putfield 29, 3) := dk_181 (dq_lk dX4_isStopped_w0 (r := 18) (x := 181) rfl) (dq_lk dX4_isStopped_w0 (r := 19) (x := 0) rfl) (dq_lk dX4_isStopped_w0 (r := 20) (x := 29) rfl)
theorem dX4_isStopped_21 : decode cX4_isStopped 21 = .ok (.aload_n 0, 1) := dk_42 (dq_lk dX4_isStopped_w0 (r := 21) (x := 42) rfl)
theorem dX4_isStopped_22 : decode cX4_isStopped 22 = .ok (.getfield 29, 3) := dk_180 (dq_lk dX4_isStopped_w0 (r := 22) (x := 180) rfl) (dq_lk dX4_isStopped_w0 (r := 23) (x := 0) rfl) (dq_lk dX4_isStopped_w0 (r := 24) (x := 29) rfl)
theorem dX4_isStopped_25 : decode cX4_isStopped 25 = .ok (.ifCond .le 7, 3) := dk_158 (dq_lk dX4_isStopped_w0 (r := 25) (x := 158) rfl) (dq_lk dX4_isStopped_w0 (r := 26) (x := 0) rfl) (dq_lk dX4_isStopped_w0 (r := 27) (x := 7) rfl) (by decide +kernel)
theorem dX4_isStopped_28 : decode cX4_isStopped 28 = .ok (.iconst 1, 1) := dk_4 (dq_lk dX4_isStopped_w0 (r := 28) (x := 4) rfl)
theorem dX4_isStopped_29 : decode cX4_isStopped 29 = .ok (.goto 4, 3) := dk_167 (dq_lk dX4_isStopped_w0 (r := 29) (x := 167) rfl) (dq_lk dX4_isStopped_w0 (r := 30) (x := 0) rfl) (dq_lk dX4_isStopped_w0 (r := 31) (x := 4) rfl) (by decide +kernel)
theorem dX4_isStopped_32 : decode cX4_isStopped 32 = .ok (.iconst 0, 1) := dk_3 (dq_lk dX4_isStopped_w0 (r := 32) (x := 3) rfl)
theorem dX4_isStopped_33 : decode cX4_isStopped 33 = .ok (.ireturn, 1) := dk_172 (dq_lk dX4_isStopped_w0 (r := 33) (x := 172) rfl)
def f_stop (a b : Int32) : Int32 := if a = 0 then (if b = 0 then 0 else 2) else 1
theorem c_X4_isStopped (ad ae : Nat → Nat) (cs : ClassId × ClassId × ClassId) (K : mK) (J : mJ) (rest : va_W) (p0 p1 : Int32) : mCt (mTy cs) yX4_isStopped cX4_isStopped 3 (some .boolean) ⟨0, 0, 0, 0⟩ [.ref (ae 0), .int p0, .int p1] (mRw ad ae cs K J rest) (fun v ws' => ∃ r J', ((r = 0 ∧ p0 = 0 ∧ p1 = 0) ∨ (r = 1 ∧ ¬ (p0 = 0 ∧ p1 = 0))) ∧ J'.1.1 = f_stop p0 p1 ∧ J'.1.2 = J.1.2 ∧ J'.2 = J.2 ∧ v = some (.int r) ∧ ws' = mRw ad ae cs K J' rest) mNo := by
  refine mCt.of (by decide +kernel) (Nat.le_of_ble_eq_true rfl) (fun X hX hE => ?_)
  replace hX : mOK X RX4 cX4_isStopped 3 ⟨0, 0, 0, 0⟩ [] (mTy cs) := hX
  have fin : ∀ lv x, lget lv 0 = some (.ref (ae 0)) → f_stop p0 p1 = x → ((¬ (p0 = 0 ∧ p1 = 0)) ∧ 0 < x ∨ (p0 = 0 ∧ p1 = 0) ∧ ¬ 0 < x) → mV X 18 lv [.int x, .ref (ae 0)] (mRw ad ae cs K J rest) 0 0 := fun lv x h0 hx hs => by
    refine r_put hX kf_X4_29 14 rfl rfl rfl rfl (Nat.le_of_ble_eq_true rfl) dX4_isStopped_18 ?_
    refine r_aload_n hX dX4_isStopped_21 rfl h0 ?_
    refine r_get hX kf_X4_29 14 rfl rfl dX4_isStopped_22 ?_
    refine r_if_le (tgt := 32) hX dX4_isStopped_25 (by decide) (fun c => ?_) (fun c => ?_)
    · refine r_iconst (v := 0) hX dX4_isStopped_32 (by decide) ?_
      refine r_zret hX hE dX4_isStopped_33 (by decide) (Nat.le_of_ble_eq_true rfl) (Nat.le_of_ble_eq_true rfl) ⟨0, ((f_stop p0 p1, J.1.2), J.2), Or.inl ⟨rfl, ?_⟩, rfl, rfl, rfl, rfl, by rw [hx]; rfl⟩
      rcases hs with hs | hs
      · exact absurd hs.2 (Int32.not_lt.mpr c)
      · exact hs.1
    · refine r_iconst (v := 1) hX dX4_isStopped_28 (by decide) ?_
      refine r_goto (tgt := 33) hX dX4_isStopped_29 (by decide) ?_
      refine r_zret hX hE dX4_isStopped_33 (by decide) (Nat.le_of_ble_eq_true rfl) (Nat.le_of_ble_eq_true rfl) ⟨1, ((f_stop p0 p1, J.1.2), J.2), Or.inr ⟨rfl, ?_⟩, rfl, rfl, rfl, rfl, by rw [hx]; rfl⟩
      rcases hs with hs | hs
      · exact hs.1
      · exact absurd (Int32.not_le.mp c) hs.2
  refine r_aload_n hX dX4_isStopped_0 rfl rfl ?_
  refine r_iload_n hX dX4_isStopped_1 rfl rfl ?_
  refine r_if_eq (tgt := 9) hX dX4_isStopped_2 (by decide) (fun c => ?_) (fun c => ?_)
  · refine r_iload_n hX dX4_isStopped_9 rfl rfl ?_
    refine r_if_eq (tgt := 17) hX dX4_isStopped_10 (by decide) (fun c2 => ?_) (fun c2 => ?_)
    · refine r_iconst (v := 0) hX dX4_isStopped_17 (by decide) ?_
      exact fin _ 0 rfl (by simp [f_stop, c, c2]) (Or.inr ⟨⟨c, c2⟩, by decide⟩)
    · refine r_iconst (v := 2) hX dX4_isStopped_13 (by decide) ?_
      refine r_goto (tgt := 18) hX dX4_isStopped_14 (by decide) ?_
      exact fin _ 2 rfl (by simp [f_stop, c, c2]) (Or.inl ⟨fun q => c2 q.2, by decide⟩)
  · refine r_iconst (v := 1) hX dX4_isStopped_5 (by decide) ?_
    refine r_goto (tgt := 18) hX dX4_isStopped_6 (by decide) ?_
    exact fin _ 1 rfl (by simp [f_stop, c]) (Or.inl ⟨fun q => c q.1, by decide⟩)
theorem dX4_whole_w0 : (cX4_whole.data.toList.drop 0).take 64 = [30, 9, 148, 155, 0, 9, 30, 32, 109, 167, 0, 12, 30, 117, 32, 97, 10, 101, 32, 109, 117, 173] := by decide +kernel
theorem dX4_whole_0 : decode cX4_whole 0 = .ok (.lload_n 0, 1) := dk_30 (dq_lk dX4_whole_w0 (r := 0) (x := 30) rfl)
theorem dX4_whole_1 : decode cX4_whole 1 = .ok (.lconst 0, 1) := dk_9 (dq_lk dX4_whole_w0 (r := 1) (x := 9) rfl)
theorem dX4_whole_2 : decode cX4_whole 2 = .ok (.lcmp, 1) := dk_148 (dq_lk dX4_whole_w0 (r := 2) (x := 148) rfl)
theorem dX4_whole_3 : decode cX4_whole 3 = .ok (.ifCond .lt 9, 3) := dk_155 (dq_lk dX4_whole_w0 (r := 3) (x := 155) rfl) (dq_lk dX4_whole_w0 (r := 4) (x := 0) rfl) (dq_lk dX4_whole_w0 (r := 5) (x := 9) rfl) (by decide +kernel)
theorem dX4_whole_6 : decode cX4_whole 6 = .ok (.lload_n 0, 1) := dk_30 (dq_lk dX4_whole_w0 (r := 6) (x := 30) rfl)
theorem dX4_whole_7 : decode cX4_whole 7 = .ok (.lload_n 2, 1) := dk_32 (dq_lk dX4_whole_w0 (r := 7) (x := 32) rfl)
theorem dX4_whole_8 : decode cX4_whole 8 = .ok (.ldiv, 1) := dk_109 (dq_lk dX4_whole_w0 (r := 8) (x := 109) rfl)
theorem dX4_whole_9 : decode cX4_whole 9 = .ok (.goto 12, 3) := dk_167 (dq_lk dX4_whole_w0 (r := 9) (x := 167) rfl) (dq_lk dX4_whole_w0 (r := 10) (x := 0) rfl) (dq_lk dX4_whole_w0 (r := 11) (x := 12) rfl) (by decide +kernel)
theorem dX4_whole_12 : decode cX4_whole 12 = .ok (.lload_n 0, 1) := dk_30 (dq_lk dX4_whole_w0 (r := 12) (x := 30) rfl)
theorem dX4_whole_13 : decode cX4_whole 13 = .ok (.lneg, 1) := dk_117 (dq_lk dX4_whole_w0 (r := 13) (x := 117) rfl)
theorem dX4_whole_14 : decode cX4_whole 14 = .ok (.lload_n 2, 1) := dk_32 (dq_lk dX4_whole_w0 (r := 14) (x := 32) rfl)
theorem dX4_whole_15 : decode cX4_whole 15 = .ok (.ladd, 1) := dk_97 (dq_lk dX4_whole_w0 (r := 15) (x := 97) rfl)
theorem dX4_whole_16 : decode cX4_whole 16 = .ok (.lconst 1, 1) := dk_10 (dq_lk dX4_whole_w0 (r := 16) (x := 10) rfl)
theorem dX4_whole_17 : decode cX4_whole 17 = .ok (.lsub, 1) := dk_101 (dq_lk dX4_whole_w0 (r := 17) (x := 101) rfl)
theorem dX4_whole_18 : decode cX4_whole 18 = .ok (.lload_n 2, 1) := dk_32 (dq_lk dX4_whole_w0 (r := 18) (x := 32) rfl)
theorem dX4_whole_19 : decode cX4_whole 19 = .ok (.ldiv, 1) := dk_109 (dq_lk dX4_whole_w0 (r := 19) (x := 109) rfl)
theorem dX4_whole_20 : decode cX4_whole 20 = .ok (.lneg, 1) := dk_117 (dq_lk dX4_whole_w0 (r := 20) (x := 117) rfl)
theorem dX4_whole_21 : decode cX4_whole 21 = .ok (.lreturn, 1) := dk_173 (dq_lk dX4_whole_w0 (r := 21) (x := 173) rfl)
theorem dX4_rest_w0 : (cX4_rest.data.toList.drop 0).take 64 = [30, 32, 30, 32, 184, 0, 92, 105, 101, 136, 172] := by decide +kernel
theorem dX4_rest_0 : decode cX4_rest 0 = .ok (.lload_n 0, 1) := dk_30 (dq_lk dX4_rest_w0 (r := 0) (x := 30) rfl)
theorem dX4_rest_1 : decode cX4_rest 1 = .ok (.lload_n 2, 1) := dk_32 (dq_lk dX4_rest_w0 (r := 1) (x := 32) rfl)
theorem dX4_rest_2 : decode cX4_rest 2 = .ok (.lload_n 0, 1) := dk_30 (dq_lk dX4_rest_w0 (r := 2) (x := 30) rfl)
theorem dX4_rest_3 : decode cX4_rest 3 = .ok (.lload_n 2, 1) := dk_32 (dq_lk dX4_rest_w0 (r := 3) (x := 32) rfl)
theorem dX4_rest_4 : decode cX4_rest 4 = .ok (.invokestatic 92, 3) := dk_184 (dq_lk dX4_rest_w0 (r := 4) (x := 184) rfl) (dq_lk dX4_rest_w0 (r := 5) (x := 0) rfl) (dq_lk dX4_rest_w0 (r := 6) (x := 92) rfl)
theorem dX4_rest_7 : decode cX4_rest 7 = .ok (.lmul, 1) := dk_105 (dq_lk dX4_rest_w0 (r := 7) (x := 105) rfl)
theorem dX4_rest_8 : decode cX4_rest 8 = .ok (.lsub, 1) := dk_101 (dq_lk dX4_rest_w0 (r := 8) (x := 101) rfl)
theorem dX4_rest_9 : decode cX4_rest 9 = .ok (.l2i, 1) := dk_136 (dq_lk dX4_rest_w0 (r := 9) (x := 136) rfl)
theorem dX4_rest_10 : decode cX4_rest 10 = .ok (.ireturn, 1) := dk_172 (dq_lk dX4_rest_w0 (r := 10) (x := 172) rfl)
theorem dX4_isDay_w0 : (cX4_isDay.data.toList.drop 0).take 64 = [30, 17, 7, 118, 184, 0, 52, 133, 17, 7, 239, 184, 0, 52, 4, 100, 133, 184, 0, 38, 172] := by decide +kernel
theorem dX4_isDay_0 : decode cX4_isDay 0 = .ok (.lload_n 0, 1) := dk_30 (dq_lk dX4_isDay_w0 (r := 0) (x := 30) rfl)
theorem dX4_isDay_1 : decode cX4_isDay 1 = .ok (.sipush 1910, 3) := dk_17 (dq_lk dX4_isDay_w0 (r := 1) (x := 17) rfl) (dq_lk dX4_isDay_w0 (r := 2) (x := 7) rfl) (dq_lk dX4_isDay_w0 (r := 3) (x := 118) rfl) (by decide +kernel)
theorem dX4_isDay_4 : decode cX4_isDay 4 = .ok (.invokestatic 52, 3) := dk_184 (dq_lk dX4_isDay_w0 (r := 4) (x := 184) rfl) (dq_lk dX4_isDay_w0 (r := 5) (x := 0) rfl) (dq_lk dX4_isDay_w0 (r := 6) (x := 52) rfl)
theorem dX4_isDay_7 : decode cX4_isDay 7 = .ok (.i2l, 1) := dk_133 (dq_lk dX4_isDay_w0 (r := 7) (x := 133) rfl)
theorem dX4_isDay_8 : decode cX4_isDay 8 = .ok (.sipush 2031, 3) := dk_17 (dq_lk dX4_isDay_w0 (r := 8) (x := 17) rfl) (dq_lk dX4_isDay_w0 (r := 9) (x := 7) rfl) (dq_lk dX4_isDay_w0 (r := 10) (x := 239) rfl) (by decide +kernel)
theorem dX4_isDay_11 : decode cX4_isDay 11 = .ok (.invokestatic 52, 3) := dk_184 (dq_lk dX4_isDay_w0 (r := 11) (x := 184) rfl) (dq_lk dX4_isDay_w0 (r := 12) (x := 0) rfl) (dq_lk dX4_isDay_w0 (r := 13) (x := 52) rfl)
theorem dX4_isDay_14 : decode cX4_isDay 14 = .ok (.iconst 1, 1) := dk_4 (dq_lk dX4_isDay_w0 (r := 14) (x := 4) rfl)
theorem dX4_isDay_15 : decode cX4_isDay 15 = .ok (.isub, 1) := dk_100 (dq_lk dX4_isDay_w0 (r := 15) (x := 100) rfl)
theorem dX4_isDay_16 : decode cX4_isDay 16 = .ok (.i2l, 1) := dk_133 (dq_lk dX4_isDay_w0 (r := 16) (x := 133) rfl)
theorem dX4_isDay_17 : decode cX4_isDay 17 = .ok (.invokestatic 38, 3) := dk_184 (dq_lk dX4_isDay_w0 (r := 17) (x := 184) rfl) (dq_lk dX4_isDay_w0 (r := 18) (x := 0) rfl) (dq_lk dX4_isDay_w0 (r := 19) (x := 38) rfl)
theorem dX4_isDay_20 : decode cX4_isDay 20 = .ok (.ireturn, 1) := dk_172 (dq_lk dX4_isDay_w0 (r := 20) (x := 172) rfl)
theorem dX4_isThere_w0 : (cX4_isThere.data.toList.drop 0).take 64 = [26, 133, 20, 0, 147, 20, 0, 149, 184, 0, 38, 153, 0, 34, 27, 133, 10, 20, 0, 151, 184, 0, 38, 153, 0, 22, 28, 133, 10, 26, 27, 184, 0, 55, 133, 184, 0, 38, 153, 0, 7, 4, 167, 0, 4, 3, 172] := by decide +kernel
theorem dX4_isThere_0 : decode cX4_isThere 0 = .ok (.iload_n 0, 1) := dk_26 (dq_lk dX4_isThere_w0 (r := 0) (x := 26) rfl)
theorem dX4_isThere_1 : decode cX4_isThere 1 = .ok (.i2l, 1) := dk_133 (dq_lk dX4_isThere_w0 (r := 1) (x := 133) rfl)
theorem dX4_isThere_2 : decode cX4_isThere 2 = .ok (.ldc2_w 147, 3) := dk_20 (dq_lk dX4_isThere_w0 (r := 2) (x := 20) rfl) (dq_lk dX4_isThere_w0 (r := 3) (x := 0) rfl) (dq_lk dX4_isThere_w0 (r := 4) (x := 147) rfl)
theorem dX4_isThere_5 : decode cX4_isThere 5 = .ok (.ldc2_w 149, 3) := dk_20 (dq_lk dX4_isThere_w0 (r := 5) (x := 20) rfl) (dq_lk dX4_isThere_w0 (r := 6) (x := 0) rfl) (dq_lk dX4_isThere_w0 (r := 7) (x := 149) rfl)
theorem dX4_isThere_8 : decode cX4_isThere 8 = .ok (.invokestatic 38, 3) := dk_184 (dq_lk dX4_isThere_w0 (r := 8) (x := 184) rfl) (dq_lk dX4_isThere_w0 (r := 9) (x := 0) rfl) (dq_lk dX4_isThere_w0 (r := 10) (x := 38) rfl)
theorem dX4_isThere_11 : decode cX4_isThere 11 = .ok (.ifCond .eq 34, 3) := dk_153 (dq_lk dX4_isThere_w0 (r := 11) (x := 153) rfl) (dq_lk dX4_isThere_w0 (r := 12) (x := 0) rfl) (dq_lk dX4_isThere_w0 (r := 13) (x := 34) rfl) (by decide +kernel)
theorem dX4_isThere_14 : decode cX4_isThere 14 = .ok (.iload_n 1, 1) := dk_27 (dq_lk dX4_isThere_w0 (r := 14) (x := 27) rfl)
theorem dX4_isThere_15 : decode cX4_isThere 15 = .ok (.i2l, 1) := dk_133 (dq_lk dX4_isThere_w0 (r := 15) (x := 133) rfl)
theorem dX4_isThere_16 : decode cX4_isThere 16 = .ok (.lconst 1, 1) := dk_10 (dq_lk dX4_isThere_w0 (r := 16) (x := 10) rfl)
theorem dX4_isThere_17 : decode cX4_isThere 17 = .ok (.ldc2_w 151, 3) := dk_20 (dq_lk dX4_isThere_w0 (r := 17) (x := 20) rfl) (dq_lk dX4_isThere_w0 (r := 18) (x := 0) rfl) (dq_lk dX4_isThere_w0 (r := 19) (x := 151) rfl)
theorem dX4_isThere_20 : decode cX4_isThere 20 = .ok (.invokestatic 38, 3) := dk_184 (dq_lk dX4_isThere_w0 (r := 20) (x := 184) rfl) (dq_lk dX4_isThere_w0 (r := 21) (x := 0) rfl) (dq_lk dX4_isThere_w0 (r := 22) (x := 38) rfl)
theorem dX4_isThere_23 : decode cX4_isThere 23 = .ok (.ifCond .eq 22, 3) := dk_153 (dq_lk dX4_isThere_w0 (r := 23) (x := 153) rfl) (dq_lk dX4_isThere_w0 (r := 24) (x := 0) rfl) (dq_lk dX4_isThere_w0 (r := 25) (x := 22) rfl) (by decide +kernel)
theorem dX4_isThere_26 : decode cX4_isThere 26 = .ok (.iload_n 2, 1) := dk_28 (dq_lk dX4_isThere_w0 (r := 26) (x := 28) rfl)
theorem dX4_isThere_27 : decode cX4_isThere 27 = .ok (.i2l, 1) := dk_133 (dq_lk dX4_isThere_w0 (r := 27) (x := 133) rfl)
theorem dX4_isThere_28 : decode cX4_isThere 28 = .ok (.lconst 1, 1) := dk_10 (dq_lk dX4_isThere_w0 (r := 28) (x := 10) rfl)
theorem dX4_isThere_29 : decode cX4_isThere 29 = .ok (.iload_n 0, 1) := dk_26 (dq_lk dX4_isThere_w0 (r := 29) (x := 26) rfl)
theorem dX4_isThere_30 : decode cX4_isThere 30 = .ok (.iload_n 1, 1) := dk_27 (dq_lk dX4_isThere_w0 (r := 30) (x := 27) rfl)
theorem dX4_isThere_31 : decode cX4_isThere 31 = .ok (.invokestatic 55, 3) := dk_184 (dq_lk dX4_isThere_w0 (r := 31) (x := 184) rfl) (dq_lk dX4_isThere_w0 (r := 32) (x := 0) rfl) (dq_lk dX4_isThere_w0 (r := 33) (x := 55) rfl)
theorem dX4_isThere_34 : decode cX4_isThere 34 = .ok (.i2l, 1) := dk_133 (dq_lk dX4_isThere_w0 (r := 34) (x := 133) rfl)
theorem dX4_isThere_35 : decode cX4_isThere 35 = .ok (.invokestatic 38, 3) := dk_184 (dq_lk dX4_isThere_w0 (r := 35) (x := 184) rfl) (dq_lk dX4_isThere_w0 (r := 36) (x := 0) rfl) (dq_lk dX4_isThere_w0 (r := 37) (x := 38) rfl)
theorem dX4_isThere_38 : decode cX4_isThere 38 = .ok (.ifCond .eq 7, 3) := dk_153 (dq_lk dX4_isThere_w0 (r := 38) (x := 153) rfl) (dq_lk dX4_isThere_w0 (r := 39) (x := 0) rfl) (dq_lk dX4_isThere_w0 (r := 40) (x := 7) rfl) (by decide +kernel)
theorem dX4_isThere_41 : decode cX4_isThere 41 = .ok (.iconst 1, 1) := dk_4 (dq_lk dX4_isThere_w0 (r := 41) (x := 4) rfl)
theorem dX4_isThere_42 : decode cX4_isThere 42 = .ok (.goto 4, 3) := dk_167 (dq_lk dX4_isThere_w0 (r := 42) (x := 167) rfl) (dq_lk dX4_isThere_w0 (r := 43) (x := 0) rfl) (dq_lk dX4_isThere_w0 (r := 44) (x := 4) rfl) (by decide +kernel)
theorem dX4_isThere_45 : decode cX4_isThere 45 = .ok (.iconst 0, 1) := dk_3 (dq_lk dX4_isThere_w0 (r := 45) (x := 3) rfl)
theorem dX4_isThere_46 : decode cX4_isThere 46 = .ok (.ireturn, 1) := dk_172 (dq_lk dX4_isThere_w0 (r := 46) (x := 172) rfl)
abbrev lZ (z : Int) : Int64 := Int64.ofInt z
theorem lZ_toInt {z : Int} (h1 : -9223372036854775808 ≤ z) (h2 : z < 9223372036854775808) : (lZ z).toInt = z := Int64.toInt_ofInt_of_le (by omega) (by omega)
theorem lZ_add (a b : Int) : lZ a + lZ b = lZ (a + b) := (Int64.ofInt_add a b).symm
theorem lZ_sub (a b : Int) : lZ a - lZ b = lZ (a - b) := (Int64.ofInt_sub a b).symm
theorem lZ_mul (a b : Int) : lZ a * lZ b = lZ (a * b) := (Int64.ofInt_mul a b).symm
theorem lZ_neg (a : Int) : -lZ a = lZ (-a) := Int64.neg_ofInt
theorem lZ_lt0 {a : Int} (h1 : -9223372036854775808 ≤ a) (h2 : a < 9223372036854775808) : lZ a < 0 ↔ a < 0 := by
  rw [Int64.lt_iff_toInt_lt, lZ_toInt h1 h2]
  rfl
theorem lZ_ne0 {b : Int} (h1 : 1 ≤ b) (h2 : b < 9223372036854775808) : ¬ lZ b = 0 := by
  intro h
  have h3 := congrArg Int64.toInt h
  rw [lZ_toInt (by omega) h2] at h3
  have h4 : (0 : Int64).toInt = 0 := rfl
  omega
theorem lZ_div {a b : Int} (h1 : 0 ≤ a) (h2 : a < 9223372036854775808) (h3 : 1 ≤ b) (h4 : b < 9223372036854775808) : lZ a / lZ b = lZ (a / b) := by
  apply Int64.toInt_inj.mp
  have hm : lZ a ≠ Int64.minValue := by
    intro h
    have h5 := congrArg Int64.toInt h
    rw [lZ_toInt (by omega) h2] at h5
    have h6 : Int64.minValue.toInt = -9223372036854775808 := rfl
    omega
  have hq : 0 ≤ a / b ∧ a / b ≤ a := ⟨Int.ediv_nonneg h1 (by omega), Int.ediv_le_self b h1⟩
  rw [Int64.toInt_div_of_ne_left _ _ hm, lZ_toInt (by omega) h2, lZ_toInt (by omega) h4, lZ_toInt (by omega) (by omega), Int.tdiv_eq_ediv_of_nonneg h1]
theorem fl_neg {a b : Int} (hb : 1 ≤ b) : -((-a + b - 1) / b) = a / b := by
  have h := Int.emod_add_mul_ediv a b
  have h1 := Int.emod_nonneg a (show b ≠ 0 by omega)
  have h2 := Int.emod_lt_of_pos a (show 0 < b by omega)
  have e : -a + b - 1 = (b - 1 - a % b) + b * (-(a / b)) := by
    rw [Int.mul_neg]
    omega
  rw [e, Int.add_mul_ediv_left _ _ (show b ≠ 0 by omega), Int.ediv_eq_zero_of_lt (by omega) (by omega)]
  omega
theorem c_X4_whole_x (tys : List (ClassId × FieldType)) (ws : va_W) (a b : Int) (ha1 : -4000000000000000000 ≤ a) (ha2 : a ≤ 4000000000000000000) (hb1 : 1 ≤ b) (hb2 : b ≤ 1000000000000) : mCt tys yX4_whole cX4_whole 4 (some .long) ⟨0, 0, 0, 0⟩ [.long (lZ a), .long (lZ b)] ws (fun v ws' => v = some (.long (lZ (a / b))) ∧ ws' = ws) mNo := by
  refine mCt.of (by decide +kernel) (Nat.le_of_ble_eq_true rfl) (fun X hX hE => ?_)
  replace hX : mOK X RX4 cX4_whole 4 ⟨0, 0, 0, 0⟩ [] tys := hX
  have hne := lZ_ne0 hb1 (by omega)
  refine r_lload_n hX dX4_whole_0 rfl rfl ?_
  refine r_lconst (v := 0) hX dX4_whole_1 (by decide) ?_
  refine r_lcmp hX dX4_whole_2 ?_
  refine r_if_lt (tgt := 12) hX dX4_whole_3 (by decide) (fun c => ?_) (fun c => ?_)
  · have hn := (lZ_lt0 (by omega) (by omega)).mp (lg_lt.mp c)
    refine r_lload_n hX dX4_whole_12 rfl rfl ?_
    refine r_lneg hX dX4_whole_13 ?_
    refine r_lload_n hX dX4_whole_14 rfl rfl ?_
    refine r_ladd hX dX4_whole_15 ?_
    refine r_lconst (v := 1) hX dX4_whole_16 (by decide) ?_
    refine r_lsub hX dX4_whole_17 ?_
    refine r_lload_n hX dX4_whole_18 rfl rfl ?_
    refine r_ldiv hX dX4_whole_19 hne ?_
    refine r_lneg hX dX4_whole_20 ?_
    refine r_lret hX hE dX4_whole_21 (Nat.le_of_ble_eq_true rfl) (Nat.le_of_ble_eq_true rfl) ⟨?_, rfl⟩
    rw [show (1 : Int64) = lZ 1 from rfl, lZ_neg, lZ_add, lZ_sub, lZ_div (by omega) (by omega) hb1 (by omega), lZ_neg, fl_neg hb1]
  · have hn : 0 ≤ a := by
      by_cases q : a < 0
      · exact absurd (lg_lt.mpr ((lZ_lt0 (by omega) (by omega)).mpr q)) c
      · omega
    refine r_lload_n hX dX4_whole_6 rfl rfl ?_
    refine r_lload_n hX dX4_whole_7 rfl rfl ?_
    refine r_ldiv hX dX4_whole_8 hne ?_
    refine r_goto (tgt := 21) hX dX4_whole_9 (by decide) ?_
    refine r_lret hX hE dX4_whole_21 (Nat.le_of_ble_eq_true rfl) (Nat.le_of_ble_eq_true rfl) ⟨?_, rfl⟩
    rw [lZ_div hn (by omega) hb1 (by omega)]
theorem c_X4_rest_x (tys : List (ClassId × FieldType)) (ws : va_W) (a b : Int) (ha1 : -4000000000000000000 ≤ a) (ha2 : a ≤ 4000000000000000000) (hb1 : 1 ≤ b) (hb2 : b ≤ 1000000000000) : mCt tys yX4_rest cX4_rest 4 (some .int) ⟨1, 0, 0, 23⟩ [.long (lZ a), .long (lZ b)] ws (fun v ws' => v = some (.int (iZ (a % b))) ∧ ws' = ws) mNo := by
  refine mCt.of (by decide +kernel) (Nat.le_of_ble_eq_true rfl) (fun X hX hE => ?_)
  replace hX : mOK X RX4 cX4_rest 4 ⟨1, 0, 0, 23⟩ [] tys := hX
  refine r_lload_n hX dX4_rest_0 rfl rfl ?_
  refine r_lload_n hX dX4_rest_1 rfl rfl ?_
  refine r_lload_n hX dX4_rest_2 rfl rfl ?_
  refine r_lload_n hX dX4_rest_3 rfl rfl ?_
  refine r_callS hX (c_X4_whole_x _ _ a b ha1 ha2 hb1 hb2) ks_X4_92 rfl rfl (Nat.le_of_ble_eq_true rfl) ⟨(Nat.le_of_ble_eq_true rfl), (Nat.le_of_ble_eq_true rfl)⟩ ⟨(Nat.le_of_ble_eq_true rfl), (Nat.le_of_ble_eq_true rfl)⟩ dX4_rest_4 (fun _ _ z => False.elim z) (fun v9 ws9 h => ?_)
  obtain ⟨rfl, hw9⟩ := h
  subst ws9
  dsimp only [mPush]
  refine r_lmul hX dX4_rest_7 ?_
  refine r_lsub hX dX4_rest_8 ?_
  refine r_l2i hX dX4_rest_9 ?_
  refine r_iret hX hE dX4_rest_10 (Nat.le_of_ble_eq_true rfl) (Nat.le_of_ble_eq_true rfl) ⟨?_, rfl⟩
  rw [lZ_mul, lZ_sub, ← Int.emod_def, Int64.toInt32_ofInt]
/-- a day that is there lies in the years 1910 to 2030 -/
theorem day_in {y m d : Nat} (h1 : 1910 ≤ y) (h2 : y ≤ 2030) (h3 : 1 ≤ m) (h4 : m ≤ 12) (h5 : 1 ≤ d) (h6 : d ≤ dm y m) : -21915 ≤ FO y + DB y m + (d : Int) - 1 ∧ FO y + DB y m + (d : Int) - 1 ≤ 22279 := by
  have a1 := FO_m h1 (by omega)
  have a2 := FO_m (y := y + 1) (z := 2031) (by omega) (by decide)
  have a3 := FO_s (y := y) (by omega)
  have a4 := DB_t (y := y) h3 h4
  have a5 := DB_b (y := y) (m := m) (by omega)
  rw [FO_1910] at a1
  rw [FO_2031] at a2
  omega
/-- .. by its number in the year -/
theorem day_in2 {y n : Nat} (h1 : 1910 ≤ y) (h2 : y ≤ 2030) (h5 : 1 ≤ n) (h6 : n ≤ yl y) : -21915 ≤ FO y + (n : Int) - 1 ∧ FO y + (n : Int) - 1 ≤ 22279 := by
  have a1 := FO_m h1 (by omega)
  have a2 := FO_m (y := y + 1) (z := 2031) (by omega) (by decide)
  have a3 := FO_s (y := y) (by omega)
  rw [FO_1910] at a1
  rw [FO_2031] at a2
  omega
