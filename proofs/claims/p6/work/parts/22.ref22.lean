/-! The reference, its contracts (rows by a program of this repository). -/
theorem nI_of3 {x : Int32} {N : Nat} (h1 : 0 ≤ x) {M : Int32} (h2 : x ≤ M) (hM : M.toInt < N := by decide) : ∃ j, j < N ∧ x = nI j := by
  obtain ⟨j, hj, rfl⟩ := nI_of (Int32.not_lt.mpr h1)
  refine ⟨j, ?_, rfl⟩
  have h3 := Int32.le_iff_toInt_le.mp h2
  rw [nI_toInt hj] at h3
  omega
theorem nI_not3 {x : Int32} {N : Nat} {M : Int32} (hM : M.toInt = (N : Int) - 1) (h : ¬ (0 ≤ x ∧ x ≤ M)) : ¬ vp_in x N := by
  intro q
  have q2 := vp_in_iff.mp q
  refine h ⟨Int32.le_iff_toInt_le.mpr (by simpa using q2.1), Int32.le_iff_toInt_le.mpr (by omega)⟩
theorem fnn {x : Int32} : ¬ f_isWithin x.toInt64 0 3 = 0 → ∃ j, j < 4 ∧ x = nI j := by
  intro h
  have h2 := Classical.not_not.mp (fun q => h ((fwi (x := x) (a' := 0) (b' := 3) (by decide) (by decide)).mpr q))
  exact nI_of3 h2.1 h2.2
theorem fnc {x : Int32} : ¬ f_isWithin x.toInt64 0 2 = 0 → ∃ j, j < 3 ∧ x = nI j := by
  intro h
  have h2 := Classical.not_not.mp (fun q => h ((fwi (x := x) (a' := 0) (b' := 2) (by decide) (by decide)).mpr q))
  exact nI_of3 (N := 3) h2.1 h2.2
theorem dX4_isNone_0 : decode cX4_isNone 0 = .ok (.iload_n 0, 1) := by decide +kernel
theorem dX4_isNone_1 : decode cX4_isNone 1 = .ok (.i2l, 1) := by decide +kernel
theorem dX4_isNone_2 : decode cX4_isNone 2 = .ok (.lconst 0, 1) := by decide +kernel
theorem dX4_isNone_3 : decode cX4_isNone 3 = .ok (.ldc2_w 36, 3) := by decide +kernel
theorem dX4_isNone_6 : decode cX4_isNone 6 = .ok (.invokestatic 38, 3) := by decide +kernel
theorem dX4_isNone_9 : decode cX4_isNone 9 = .ok (.ifCond .ne 7, 3) := by decide +kernel
theorem dX4_isNone_12 : decode cX4_isNone 12 = .ok (.iconst 1, 1) := by decide +kernel
theorem dX4_isNone_13 : decode cX4_isNone 13 = .ok (.goto 4, 3) := by decide +kernel
theorem dX4_isNone_16 : decode cX4_isNone 16 = .ok (.iconst 0, 1) := by decide +kernel
theorem dX4_isNone_17 : decode cX4_isNone 17 = .ok (.ireturn, 1) := by decide +kernel
theorem c_X4_isNone (tys : List (ClassId × FieldType)) (ws : va_W) (p0 : Int32) : mCt tys yX4_isNone cX4_isNone 1 (some .boolean) ⟨1, 0, 0, 25⟩ [.int p0] ws (fun v ws' => ∃ r, ((r = 0 ∧ ∃ j, j < 4 ∧ p0 = nI j) ∨ (r = 1 ∧ ¬ vp_in p0 4)) ∧ v = some (.int r) ∧ ws' = ws) mNo := by
  refine mCt.of (by decide +kernel) (Nat.le_of_ble_eq_true rfl) (fun X hX hE => ?_)
  replace hX : mOK X RX4 cX4_isNone 1 ⟨1, 0, 0, 25⟩ [] tys := hX
  refine r_iload_n hX dX4_isNone_0 rfl rfl ?_
  refine r_i2l hX dX4_isNone_1 ?_
  refine r_lconst (v := 0) hX dX4_isNone_2 (by decide) ?_
  refine r_ldc2 hX kc_X4_36 dX4_isNone_3 ?_
  refine r_callS hX (c_X4_isIn _ _ _ _ _) ks_X4_38 rfl rfl (Nat.le_of_ble_eq_true rfl) ⟨(Nat.le_of_ble_eq_true rfl), (Nat.le_of_ble_eq_true rfl)⟩ ⟨(Nat.le_of_ble_eq_true rfl), (Nat.le_of_ble_eq_true rfl)⟩ dX4_isNone_6 (fun _ _ z => False.elim z) (fun v9 ws9 h => ?_)
  obtain ⟨rfl, hw9⟩ := h
  subst ws9
  dsimp only [mPush]
  refine r_if_ne (tgt := 16) hX dX4_isNone_9 (by decide) (fun c => ?_) (fun c => ?_)
  · refine r_iconst (v := 0) hX dX4_isNone_16 (by decide) ?_
    exact r_zret hX hE dX4_isNone_17 (by decide) (Nat.le_of_ble_eq_true rfl) (Nat.le_of_ble_eq_true rfl) ⟨0, Or.inl ⟨rfl, fnn c⟩, rfl, rfl⟩
  · refine r_iconst (v := 1) hX dX4_isNone_12 (by decide) ?_
    refine r_goto (tgt := 17) hX dX4_isNone_13 (by decide) ?_
    exact r_zret hX hE dX4_isNone_17 (by decide) (Nat.le_of_ble_eq_true rfl) (Nat.le_of_ble_eq_true rfl) ⟨1, Or.inr ⟨rfl, nI_not3 (M := 3) (by decide) ((fwi (by decide) (by decide)).mp (Classical.not_not.mp c))⟩, rfl, rfl⟩
theorem dX4_isNoClock_0 : decode cX4_isNoClock 0 = .ok (.iload_n 0, 1) := by decide +kernel
theorem dX4_isNoClock_1 : decode cX4_isNoClock 1 = .ok (.i2l, 1) := by decide +kernel
theorem dX4_isNoClock_2 : decode cX4_isNoClock 2 = .ok (.lconst 0, 1) := by decide +kernel
theorem dX4_isNoClock_3 : decode cX4_isNoClock 3 = .ok (.ldc2_w 42, 3) := by decide +kernel
theorem dX4_isNoClock_6 : decode cX4_isNoClock 6 = .ok (.invokestatic 38, 3) := by decide +kernel
theorem dX4_isNoClock_9 : decode cX4_isNoClock 9 = .ok (.ifCond .ne 7, 3) := by decide +kernel
theorem dX4_isNoClock_12 : decode cX4_isNoClock 12 = .ok (.iconst 1, 1) := by decide +kernel
theorem dX4_isNoClock_13 : decode cX4_isNoClock 13 = .ok (.goto 4, 3) := by decide +kernel
theorem dX4_isNoClock_16 : decode cX4_isNoClock 16 = .ok (.iconst 0, 1) := by decide +kernel
theorem dX4_isNoClock_17 : decode cX4_isNoClock 17 = .ok (.ireturn, 1) := by decide +kernel
theorem c_X4_isNoClock (tys : List (ClassId × FieldType)) (ws : va_W) (p0 : Int32) : mCt tys yX4_isNoClock cX4_isNoClock 1 (some .boolean) ⟨1, 0, 0, 25⟩ [.int p0] ws (fun v ws' => ∃ r, ((r = 0 ∧ ∃ j, j < 3 ∧ p0 = nI j) ∨ (r = 1 ∧ ¬ vp_in p0 3)) ∧ v = some (.int r) ∧ ws' = ws) mNo := by
  refine mCt.of (by decide +kernel) (Nat.le_of_ble_eq_true rfl) (fun X hX hE => ?_)
  replace hX : mOK X RX4 cX4_isNoClock 1 ⟨1, 0, 0, 25⟩ [] tys := hX
  refine r_iload_n hX dX4_isNoClock_0 rfl rfl ?_
  refine r_i2l hX dX4_isNoClock_1 ?_
  refine r_lconst (v := 0) hX dX4_isNoClock_2 (by decide) ?_
  refine r_ldc2 hX kc_X4_42 dX4_isNoClock_3 ?_
  refine r_callS hX (c_X4_isIn _ _ _ _ _) ks_X4_38 rfl rfl (Nat.le_of_ble_eq_true rfl) ⟨(Nat.le_of_ble_eq_true rfl), (Nat.le_of_ble_eq_true rfl)⟩ ⟨(Nat.le_of_ble_eq_true rfl), (Nat.le_of_ble_eq_true rfl)⟩ dX4_isNoClock_6 (fun _ _ z => False.elim z) (fun v9 ws9 h => ?_)
  obtain ⟨rfl, hw9⟩ := h
  subst ws9
  dsimp only [mPush]
  refine r_if_ne (tgt := 16) hX dX4_isNoClock_9 (by decide) (fun c => ?_) (fun c => ?_)
  · refine r_iconst (v := 0) hX dX4_isNoClock_16 (by decide) ?_
    exact r_zret hX hE dX4_isNoClock_17 (by decide) (Nat.le_of_ble_eq_true rfl) (Nat.le_of_ble_eq_true rfl) ⟨0, Or.inl ⟨rfl, fnc c⟩, rfl, rfl⟩
  · refine r_iconst (v := 1) hX dX4_isNoClock_12 (by decide) ?_
    refine r_goto (tgt := 17) hX dX4_isNoClock_13 (by decide) ?_
    exact r_zret hX hE dX4_isNoClock_17 (by decide) (Nat.le_of_ble_eq_true rfl) (Nat.le_of_ble_eq_true rfl) ⟨1, Or.inr ⟨rfl, nI_not3 (M := 2) (by decide) ((fwi (by decide) (by decide)).mp (Classical.not_not.mp c))⟩, rfl, rfl⟩
theorem mnoneB {r : Int32} {A B : Prop} (h : (r = 0 ∧ A) ∨ (r = 1 ∧ B)) : mB r := h.elim (fun q => Or.inl q.1) (fun q => Or.inr q.1)
theorem mnone0 {r : Int32} {A B : Prop} (h : (r = 0 ∧ A) ∨ (r = 1 ∧ B)) (c : r = 0) : A := by
  rcases h with h | h
  · exact h.2
  · rw [h.1] at c
    exact absurd c (by decide)
theorem mnone1 {r : Int32} {A B : Prop} (h : (r = 0 ∧ A) ∨ (r = 1 ∧ B)) (c : ¬ r = 0) : B := by
  rcases h with h | h
  · exact absurd h.1 c
  · exact h.2
theorem dX4_isStopped_0 : decode cX4_isStopped 0 = .ok (.aload_n 0, 1) := by decide +kernel
theorem dX4_isStopped_1 : decode cX4_isStopped 1 = .ok (.iload_n 1, 1) := by decide +kernel
theorem dX4_isStopped_2 : decode cX4_isStopped 2 = .ok (.ifCond .eq 7, 3) := by decide +kernel
theorem dX4_isStopped_5 : decode cX4_isStopped 5 = .ok (.iconst 1, 1) := by decide +kernel
theorem dX4_isStopped_6 : decode cX4_isStopped 6 = .ok (.goto 12, 3) := by decide +kernel
theorem dX4_isStopped_9 : decode cX4_isStopped 9 = .ok (.iload_n 2, 1) := by decide +kernel
theorem dX4_isStopped_10 : decode cX4_isStopped 10 = .ok (.ifCond .eq 7, 3) := by decide +kernel
theorem dX4_isStopped_13 : decode cX4_isStopped 13 = .ok (.iconst 2, 1) := by decide +kernel
theorem dX4_isStopped_14 : decode cX4_isStopped 14 = .ok (.goto 4, 3) := by decide +kernel
theorem dX4_isStopped_17 : decode cX4_isStopped 17 = .ok (.iconst 0, 1) := by decide +kernel
theorem dX4_isStopped_18 : decode cX4_isStopped 18 = .ok (.putfield 29, 3) := by decide +kernel
theorem dX4_isStopped_21 : decode cX4_isStopped 21 = .ok (.aload_n 0, 1) := by decide +kernel
theorem dX4_isStopped_22 : decode cX4_isStopped 22 = .ok (.getfield 29, 3) := by decide +kernel
theorem dX4_isStopped_25 : decode cX4_isStopped 25 = .ok (.ifCond .le 7, 3) := by decide +kernel
theorem dX4_isStopped_28 : decode cX4_isStopped 28 = .ok (.iconst 1, 1) := by decide +kernel
theorem dX4_isStopped_29 : decode cX4_isStopped 29 = .ok (.goto 4, 3) := by decide +kernel
theorem dX4_isStopped_32 : decode cX4_isStopped 32 = .ok (.iconst 0, 1) := by decide +kernel
theorem dX4_isStopped_33 : decode cX4_isStopped 33 = .ok (.ireturn, 1) := by decide +kernel
theorem mWF2 {J J' : mJ} (e : J'.2 = J.2) (h : mWF J) : mWF J' := by
  intro k hk
  rw [e]
  exact h k hk
def f_stop (a b : Int32) : Int32 := if a = 0 then (if b = 0 then 0 else 2) else 1
theorem c_X4_isStopped (ad ae : Nat → Nat) (cs : ClassId × ClassId × ClassId) (K : mK) (J : mJ) (rest : va_W) (p0 p1 : Int32) : mCt (mTy cs) yX4_isStopped cX4_isStopped 3 (some .boolean) ⟨0, 0, 0, 0⟩ [.ref (ae 0), .int p0, .int p1] (mRw ad ae cs K J rest) (fun v ws' => ∃ r J', ((r = 0 ∧ p0 = 0 ∧ p1 = 0) ∨ (r = 1 ∧ ¬ (p0 = 0 ∧ p1 = 0))) ∧ J'.1.1 = f_stop p0 p1 ∧ J'.1.2 = J.1.2 ∧ J'.2 = J.2 ∧ v = some (.int r) ∧ ws' = mRw ad ae cs K J' rest) mNo := by
  refine mCt.of (by decide +kernel) (Nat.le_of_ble_eq_true rfl) (fun X hX hE => ?_)
  replace hX : mOK X RX4 cX4_isStopped 3 ⟨0, 0, 0, 0⟩ [] (mTy cs) := hX
  have fin : ∀ lv x, lget lv 0 = some (.ref (ae 0)) → f_stop p0 p1 = x → ((¬ (p0 = 0 ∧ p1 = 0)) ∧ 0 < x ∨ (p0 = 0 ∧ p1 = 0) ∧ ¬ 0 < x) → mV X 18 lv [.int x, .ref (ae 0)] (mRw ad ae cs K J rest) 0 0 := fun lv x h0 hx hs => by
    refine r_put hX kf_X4_29 14 rfl rfl rfl rfl (Nat.le_of_ble_eq_true rfl) dX4_isStopped_18 ?_
    refine r_aload_n hX dX4_isStopped_21 rfl h0 ?_
    refine r_get hX kf_X4_29 14 rfl rfl dX4_isStopped_22 ?_
    refine r_if_le (tgt := 32) hX dX4_isStopped_25 (by decide) (fun c => ?_) (fun c => ?_)
    · refine r_iconst (v := 0) hX dX4_isStopped_32 (by decide) ?_
      refine r_zret hX hE dX4_isStopped_33 (by decide) (Nat.le_of_ble_eq_true rfl) (Nat.le_of_ble_eq_true rfl) ⟨0, ((f_stop p0 p1, J.1.2), J.2), Or.inl ⟨rfl, ?_⟩, rfl, rfl, rfl, rfl, by rw [hx]; rfl⟩
      rcases hs with hs | hs
      · exact absurd hs.2 (Int32.not_lt.mpr c)
      · exact hs.1
    · refine r_iconst (v := 1) hX dX4_isStopped_28 (by decide) ?_
      refine r_goto (tgt := 33) hX dX4_isStopped_29 (by decide) ?_
      refine r_zret hX hE dX4_isStopped_33 (by decide) (Nat.le_of_ble_eq_true rfl) (Nat.le_of_ble_eq_true rfl) ⟨1, ((f_stop p0 p1, J.1.2), J.2), Or.inr ⟨rfl, ?_⟩, rfl, rfl, rfl, rfl, by rw [hx]; rfl⟩
      rcases hs with hs | hs
      · exact hs.1
      · exact absurd (Int32.not_le.mp c) hs.2
  refine r_aload_n hX dX4_isStopped_0 rfl rfl ?_
  refine r_iload_n hX dX4_isStopped_1 rfl rfl ?_
  refine r_if_eq (tgt := 9) hX dX4_isStopped_2 (by decide) (fun c => ?_) (fun c => ?_)
  · refine r_iload_n hX dX4_isStopped_9 rfl rfl ?_
    refine r_if_eq (tgt := 17) hX dX4_isStopped_10 (by decide) (fun c2 => ?_) (fun c2 => ?_)
    · refine r_iconst (v := 0) hX dX4_isStopped_17 (by decide) ?_
      exact fin _ 0 rfl (by simp [f_stop, c, c2]) (Or.inr ⟨⟨c, c2⟩, by decide⟩)
    · refine r_iconst (v := 2) hX dX4_isStopped_13 (by decide) ?_
      refine r_goto (tgt := 18) hX dX4_isStopped_14 (by decide) ?_
      exact fin _ 2 rfl (by simp [f_stop, c, c2]) (Or.inl ⟨fun q => c2 q.2, by decide⟩)
  · refine r_iconst (v := 1) hX dX4_isStopped_5 (by decide) ?_
    refine r_goto (tgt := 18) hX dX4_isStopped_6 (by decide) ?_
    exact fin _ 1 rfl (by simp [f_stop, c]) (Or.inl ⟨fun q => c q.1, by decide⟩)
theorem dX4_whole_0 : decode cX4_whole 0 = .ok (.lload_n 0, 1) := by decide +kernel
theorem dX4_whole_1 : decode cX4_whole 1 = .ok (.lconst 0, 1) := by decide +kernel
theorem dX4_whole_2 : decode cX4_whole 2 = .ok (.lcmp, 1) := by decide +kernel
theorem dX4_whole_3 : decode cX4_whole 3 = .ok (.ifCond .lt 9, 3) := by decide +kernel
theorem dX4_whole_6 : decode cX4_whole 6 = .ok (.lload_n 0, 1) := by decide +kernel
theorem dX4_whole_7 : decode cX4_whole 7 = .ok (.lload_n 2, 1) := by decide +kernel
theorem dX4_whole_8 : decode cX4_whole 8 = .ok (.ldiv, 1) := by decide +kernel
theorem dX4_whole_9 : decode cX4_whole 9 = .ok (.goto 12, 3) := by decide +kernel
theorem dX4_whole_12 : decode cX4_whole 12 = .ok (.lload_n 0, 1) := by decide +kernel
theorem dX4_whole_13 : decode cX4_whole 13 = .ok (.lneg, 1) := by decide +kernel
theorem dX4_whole_14 : decode cX4_whole 14 = .ok (.lload_n 2, 1) := by decide +kernel
theorem dX4_whole_15 : decode cX4_whole 15 = .ok (.ladd, 1) := by decide +kernel
theorem dX4_whole_16 : decode cX4_whole 16 = .ok (.lconst 1, 1) := by decide +kernel
theorem dX4_whole_17 : decode cX4_whole 17 = .ok (.lsub, 1) := by decide +kernel
theorem dX4_whole_18 : decode cX4_whole 18 = .ok (.lload_n 2, 1) := by decide +kernel
theorem dX4_whole_19 : decode cX4_whole 19 = .ok (.ldiv, 1) := by decide +kernel
theorem dX4_whole_20 : decode cX4_whole 20 = .ok (.lneg, 1) := by decide +kernel
theorem dX4_whole_21 : decode cX4_whole 21 = .ok (.lreturn, 1) := by decide +kernel
theorem dX4_rest_0 : decode cX4_rest 0 = .ok (.lload_n 0, 1) := by decide +kernel
theorem dX4_rest_1 : decode cX4_rest 1 = .ok (.lload_n 2, 1) := by decide +kernel
theorem dX4_rest_2 : decode cX4_rest 2 = .ok (.lload_n 0, 1) := by decide +kernel
theorem dX4_rest_3 : decode cX4_rest 3 = .ok (.lload_n 2, 1) := by decide +kernel
theorem dX4_rest_4 : decode cX4_rest 4 = .ok (.invokestatic 92, 3) := by decide +kernel
theorem dX4_rest_7 : decode cX4_rest 7 = .ok (.lmul, 1) := by decide +kernel
theorem dX4_rest_8 : decode cX4_rest 8 = .ok (.lsub, 1) := by decide +kernel
theorem dX4_rest_9 : decode cX4_rest 9 = .ok (.l2i, 1) := by decide +kernel
theorem dX4_rest_10 : decode cX4_rest 10 = .ok (.ireturn, 1) := by decide +kernel
theorem dX4_isDay_0 : decode cX4_isDay 0 = .ok (.lload_n 0, 1) := by decide +kernel
theorem dX4_isDay_1 : decode cX4_isDay 1 = .ok (.sipush 1910, 3) := by decide +kernel
theorem dX4_isDay_4 : decode cX4_isDay 4 = .ok (.invokestatic 52, 3) := by decide +kernel
theorem dX4_isDay_7 : decode cX4_isDay 7 = .ok (.i2l, 1) := by decide +kernel
theorem dX4_isDay_8 : decode cX4_isDay 8 = .ok (.sipush 2031, 3) := by decide +kernel
theorem dX4_isDay_11 : decode cX4_isDay 11 = .ok (.invokestatic 52, 3) := by decide +kernel
theorem dX4_isDay_14 : decode cX4_isDay 14 = .ok (.iconst 1, 1) := by decide +kernel
theorem dX4_isDay_15 : decode cX4_isDay 15 = .ok (.isub, 1) := by decide +kernel
theorem dX4_isDay_16 : decode cX4_isDay 16 = .ok (.i2l, 1) := by decide +kernel
theorem dX4_isDay_17 : decode cX4_isDay 17 = .ok (.invokestatic 38, 3) := by decide +kernel
theorem dX4_isDay_20 : decode cX4_isDay 20 = .ok (.ireturn, 1) := by decide +kernel
theorem dX4_isThere_0 : decode cX4_isThere 0 = .ok (.iload_n 0, 1) := by decide +kernel
theorem dX4_isThere_1 : decode cX4_isThere 1 = .ok (.i2l, 1) := by decide +kernel
theorem dX4_isThere_2 : decode cX4_isThere 2 = .ok (.ldc2_w 147, 3) := by decide +kernel
theorem dX4_isThere_5 : decode cX4_isThere 5 = .ok (.ldc2_w 149, 3) := by decide +kernel
theorem dX4_isThere_8 : decode cX4_isThere 8 = .ok (.invokestatic 38, 3) := by decide +kernel
theorem dX4_isThere_11 : decode cX4_isThere 11 = .ok (.ifCond .eq 34, 3) := by decide +kernel
theorem dX4_isThere_14 : decode cX4_isThere 14 = .ok (.iload_n 1, 1) := by decide +kernel
theorem dX4_isThere_15 : decode cX4_isThere 15 = .ok (.i2l, 1) := by decide +kernel
theorem dX4_isThere_16 : decode cX4_isThere 16 = .ok (.lconst 1, 1) := by decide +kernel
theorem dX4_isThere_17 : decode cX4_isThere 17 = .ok (.ldc2_w 151, 3) := by decide +kernel
theorem dX4_isThere_20 : decode cX4_isThere 20 = .ok (.invokestatic 38, 3) := by decide +kernel
theorem dX4_isThere_23 : decode cX4_isThere 23 = .ok (.ifCond .eq 22, 3) := by decide +kernel
theorem dX4_isThere_26 : decode cX4_isThere 26 = .ok (.iload_n 2, 1) := by decide +kernel
theorem dX4_isThere_27 : decode cX4_isThere 27 = .ok (.i2l, 1) := by decide +kernel
theorem dX4_isThere_28 : decode cX4_isThere 28 = .ok (.lconst 1, 1) := by decide +kernel
theorem dX4_isThere_29 : decode cX4_isThere 29 = .ok (.iload_n 0, 1) := by decide +kernel
theorem dX4_isThere_30 : decode cX4_isThere 30 = .ok (.iload_n 1, 1) := by decide +kernel
theorem dX4_isThere_31 : decode cX4_isThere 31 = .ok (.invokestatic 55, 3) := by decide +kernel
theorem dX4_isThere_34 : decode cX4_isThere 34 = .ok (.i2l, 1) := by decide +kernel
theorem dX4_isThere_35 : decode cX4_isThere 35 = .ok (.invokestatic 38, 3) := by decide +kernel
theorem dX4_isThere_38 : decode cX4_isThere 38 = .ok (.ifCond .eq 7, 3) := by decide +kernel
theorem dX4_isThere_41 : decode cX4_isThere 41 = .ok (.iconst 1, 1) := by decide +kernel
theorem dX4_isThere_42 : decode cX4_isThere 42 = .ok (.goto 4, 3) := by decide +kernel
theorem dX4_isThere_45 : decode cX4_isThere 45 = .ok (.iconst 0, 1) := by decide +kernel
theorem dX4_isThere_46 : decode cX4_isThere 46 = .ok (.ireturn, 1) := by decide +kernel
abbrev lZ (z : Int) : Int64 := Int64.ofInt z
theorem lZ_toInt {z : Int} (h1 : -9223372036854775808 ≤ z) (h2 : z < 9223372036854775808) : (lZ z).toInt = z := Int64.toInt_ofInt_of_le (by omega) (by omega)
theorem lZ_add (a b : Int) : lZ a + lZ b = lZ (a + b) := (Int64.ofInt_add a b).symm
theorem lZ_sub (a b : Int) : lZ a - lZ b = lZ (a - b) := (Int64.ofInt_sub a b).symm
theorem lZ_mul (a b : Int) : lZ a * lZ b = lZ (a * b) := (Int64.ofInt_mul a b).symm
theorem lZ_neg (a : Int) : -lZ a = lZ (-a) := Int64.neg_ofInt
theorem lZ_lN (n : Nat) : lN n = lZ n := Int64.ofInt_eq_ofNat.symm
theorem lZ_lt0 {a : Int} (h1 : -9223372036854775808 ≤ a) (h2 : a < 9223372036854775808) : lZ a < 0 ↔ a < 0 := by
  rw [Int64.lt_iff_toInt_lt, lZ_toInt h1 h2]
  rfl
theorem lZ_ne0 {b : Int} (h1 : 1 ≤ b) (h2 : b < 9223372036854775808) : ¬ lZ b = 0 := by
  intro h
  have h3 := congrArg Int64.toInt h
  rw [lZ_toInt (by omega) h2] at h3
  have h4 : (0 : Int64).toInt = 0 := rfl
  omega
theorem lZ_div {a b : Int} (h1 : 0 ≤ a) (h2 : a < 9223372036854775808) (h3 : 1 ≤ b) (h4 : b < 9223372036854775808) : lZ a / lZ b = lZ (a / b) := by
  apply Int64.toInt_inj.mp
  have hm : lZ a ≠ Int64.minValue := by
    intro h
    have h5 := congrArg Int64.toInt h
    rw [lZ_toInt (by omega) h2] at h5
    have h6 : Int64.minValue.toInt = -9223372036854775808 := rfl
    omega
  have hq : 0 ≤ a / b ∧ a / b ≤ a := ⟨Int.ediv_nonneg h1 (by omega), Int.ediv_le_self b h1⟩
  rw [Int64.toInt_div_of_ne_left _ _ hm, lZ_toInt (by omega) h2, lZ_toInt (by omega) h4, lZ_toInt (by omega) (by omega), Int.tdiv_eq_ediv_of_nonneg h1]
theorem fl_neg {a b : Int} (hb : 1 ≤ b) : -((-a + b - 1) / b) = a / b := by
  have h := Int.emod_add_mul_ediv a b
  have h1 := Int.emod_nonneg a (show b ≠ 0 by omega)
  have h2 := Int.emod_lt_of_pos a (show 0 < b by omega)
  have e : -a + b - 1 = (b - 1 - a % b) + b * (-(a / b)) := by
    rw [Int.mul_neg]
    omega
  rw [e, Int.add_mul_ediv_left _ _ (show b ≠ 0 by omega), Int.ediv_eq_zero_of_lt (by omega) (by omega)]
  omega
theorem c_X4_whole_x (tys : List (ClassId × FieldType)) (ws : va_W) (a b : Int) (ha1 : -4000000000000000000 ≤ a) (ha2 : a ≤ 4000000000000000000) (hb1 : 1 ≤ b) (hb2 : b ≤ 1000000000000) : mCt tys yX4_whole cX4_whole 4 (some .long) ⟨0, 0, 0, 0⟩ [.long (lZ a), .long (lZ b)] ws (fun v ws' => v = some (.long (lZ (a / b))) ∧ ws' = ws) mNo := by
  refine mCt.of (by decide +kernel) (Nat.le_of_ble_eq_true rfl) (fun X hX hE => ?_)
  replace hX : mOK X RX4 cX4_whole 4 ⟨0, 0, 0, 0⟩ [] tys := hX
  have hne := lZ_ne0 hb1 (by omega)
  refine r_lload_n hX dX4_whole_0 rfl rfl ?_
  refine r_lconst (v := 0) hX dX4_whole_1 (by decide) ?_
  refine r_lcmp hX dX4_whole_2 ?_
  refine r_if_lt (tgt := 12) hX dX4_whole_3 (by decide) (fun c => ?_) (fun c => ?_)
  · have hn := (lZ_lt0 (by omega) (by omega)).mp (lg_lt.mp c)
    refine r_lload_n hX dX4_whole_12 rfl rfl ?_
    refine r_lneg hX dX4_whole_13 ?_
    refine r_lload_n hX dX4_whole_14 rfl rfl ?_
    refine r_ladd hX dX4_whole_15 ?_
    refine r_lconst (v := 1) hX dX4_whole_16 (by decide) ?_
    refine r_lsub hX dX4_whole_17 ?_
    refine r_lload_n hX dX4_whole_18 rfl rfl ?_
    refine r_ldiv hX dX4_whole_19 hne ?_
    refine r_lneg hX dX4_whole_20 ?_
    refine r_lret hX hE dX4_whole_21 (Nat.le_of_ble_eq_true rfl) (Nat.le_of_ble_eq_true rfl) ⟨?_, rfl⟩
    rw [show (1 : Int64) = lZ 1 from rfl, lZ_neg, lZ_add, lZ_sub, lZ_div (by omega) (by omega) hb1 (by omega), lZ_neg, fl_neg hb1]
  · have hn : 0 ≤ a := by
      by_cases q : a < 0
      · exact absurd (lg_lt.mpr ((lZ_lt0 (by omega) (by omega)).mpr q)) c
      · omega
    refine r_lload_n hX dX4_whole_6 rfl rfl ?_
    refine r_lload_n hX dX4_whole_7 rfl rfl ?_
    refine r_ldiv hX dX4_whole_8 hne ?_
    refine r_goto (tgt := 21) hX dX4_whole_9 (by decide) ?_
    refine r_lret hX hE dX4_whole_21 (Nat.le_of_ble_eq_true rfl) (Nat.le_of_ble_eq_true rfl) ⟨?_, rfl⟩
    rw [lZ_div hn (by omega) hb1 (by omega)]
theorem c_X4_rest_x (tys : List (ClassId × FieldType)) (ws : va_W) (a b : Int) (ha1 : -4000000000000000000 ≤ a) (ha2 : a ≤ 4000000000000000000) (hb1 : 1 ≤ b) (hb2 : b ≤ 1000000000000) : mCt tys yX4_rest cX4_rest 4 (some .int) ⟨1, 0, 0, 23⟩ [.long (lZ a), .long (lZ b)] ws (fun v ws' => v = some (.int (iZ (a % b))) ∧ ws' = ws) mNo := by
  refine mCt.of (by decide +kernel) (Nat.le_of_ble_eq_true rfl) (fun X hX hE => ?_)
  replace hX : mOK X RX4 cX4_rest 4 ⟨1, 0, 0, 23⟩ [] tys := hX
  refine r_lload_n hX dX4_rest_0 rfl rfl ?_
  refine r_lload_n hX dX4_rest_1 rfl rfl ?_
  refine r_lload_n hX dX4_rest_2 rfl rfl ?_
  refine r_lload_n hX dX4_rest_3 rfl rfl ?_
  refine r_callS hX (c_X4_whole_x _ _ a b ha1 ha2 hb1 hb2) ks_X4_92 rfl rfl (Nat.le_of_ble_eq_true rfl) ⟨(Nat.le_of_ble_eq_true rfl), (Nat.le_of_ble_eq_true rfl)⟩ ⟨(Nat.le_of_ble_eq_true rfl), (Nat.le_of_ble_eq_true rfl)⟩ dX4_rest_4 (fun _ _ z => False.elim z) (fun v9 ws9 h => ?_)
  obtain ⟨rfl, hw9⟩ := h
  subst ws9
  dsimp only [mPush]
  refine r_lmul hX dX4_rest_7 ?_
  refine r_lsub hX dX4_rest_8 ?_
  refine r_l2i hX dX4_rest_9 ?_
  refine r_iret hX hE dX4_rest_10 (Nat.le_of_ble_eq_true rfl) (Nat.le_of_ble_eq_true rfl) ⟨?_, rfl⟩
  rw [lZ_mul, lZ_sub, ← Int.emod_def, Int64.toInt32_ofInt]
theorem c_J9_min_x (tys : List (ClassId × FieldType)) (ws : va_W) (a b : Nat) (ha : a < 2 ^ 31) (hb : b < 2 ^ 31) : mCt tys yJ9_min_7cf53 cJ9_min_7cf53 2 (some .int) ⟨0, 0, 0, 0⟩ [.int (nI a), .int (nI b)] ws (fun v ws' => v = some (.int (nI (min a b))) ∧ ws' = ws) mNo := by
  refine mCt.of (by decide +kernel) (Nat.le_of_ble_eq_true rfl) (fun X hX hE => ?_)
  replace hX : mOK X RJ9 cJ9_min_7cf53 2 ⟨0, 0, 0, 0⟩ [] tys := hX
  refine r_iload_n hX dJ9_min_7cf53_0 rfl rfl ?_
  refine r_iload_n hX dJ9_min_7cf53_1 rfl rfl ?_
  refine r_icmp_gt (tgt := 9) hX dJ9_min_7cf53_2 (by decide) (fun c => ?_) (fun c => ?_)
  · have h := (nI_ltI hb ha).mp c
    refine r_iload_n hX dJ9_min_7cf53_9 rfl rfl ?_
    exact r_iret hX hE dJ9_min_7cf53_10 (Nat.le_of_ble_eq_true rfl) (Nat.le_of_ble_eq_true rfl) ⟨by rw [Nat.min_eq_right (by omega)], rfl⟩
  · have h : a ≤ b := by
      rcases Nat.lt_or_ge b a with q | q
      · exact absurd ((nI_ltI hb ha).mpr q) c
      · exact q
    refine r_iload_n hX dJ9_min_7cf53_5 rfl rfl ?_
    refine r_goto (tgt := 10) hX dJ9_min_7cf53_6 (by decide) ?_
    exact r_iret hX hE dJ9_min_7cf53_10 (Nat.le_of_ble_eq_true rfl) (Nat.le_of_ble_eq_true rfl) ⟨by rw [Nat.min_eq_left (by omega)], rfl⟩
theorem c_X4_isDay (tys : List (ClassId × FieldType)) (ws : va_W) (p0 : Int64) : mCt tys yX4_isDay cX4_isDay 2 (some .boolean) ⟨3, 0, 0, 70⟩ [.long p0] ws (fun v ws' => ∃ r, ((r = 0 ∧ True) ∨ (r = 1 ∧ (-21915 ≤ p0.toInt ∧ p0.toInt ≤ 22279))) ∧ v = some (.int r) ∧ ws' = ws) mNo := by
  refine mCt.of (by decide +kernel) (Nat.le_of_ble_eq_true rfl) (fun X hX hE => ?_)
  replace hX : mOK X RX4 cX4_isDay 2 ⟨3, 0, 0, 70⟩ [] tys := hX
  refine r_lload_n hX dX4_isDay_0 rfl rfl ?_
  refine r_sipush (v := nI 1910) hX dX4_isDay_1 (by decide) ?_
  refine r_callS hX (c_X4_firstOf _ _ 1910 (by decide) (by decide)) ks_X4_52 rfl rfl (Nat.le_of_ble_eq_true rfl) ⟨(Nat.le_of_ble_eq_true rfl), (Nat.le_of_ble_eq_true rfl)⟩ ⟨(Nat.le_of_ble_eq_true rfl), (Nat.le_of_ble_eq_true rfl)⟩ dX4_isDay_4 (fun _ _ z => False.elim z) (fun v9 ws9 h => ?_)
  obtain ⟨rfl, hw9⟩ := h
  subst ws9
  dsimp only [mPush]
  refine r_i2l hX dX4_isDay_7 ?_
  refine r_sipush (v := nI 2031) hX dX4_isDay_8 (by decide) ?_
  refine r_callS hX (c_X4_firstOf _ _ 2031 (by decide) (by decide)) ks_X4_52 rfl rfl (Nat.le_of_ble_eq_true rfl) ⟨(Nat.le_of_ble_eq_true rfl), (Nat.le_of_ble_eq_true rfl)⟩ ⟨(Nat.le_of_ble_eq_true rfl), (Nat.le_of_ble_eq_true rfl)⟩ dX4_isDay_11 (fun _ _ z => False.elim z) (fun v9 ws9 h => ?_)
  obtain ⟨rfl, hw9⟩ := h
  subst ws9
  dsimp only [mPush]
  refine r_iconst (v := 1) hX dX4_isDay_14 (by decide) ?_
  refine r_isub hX dX4_isDay_15 ?_
  refine r_i2l hX dX4_isDay_16 ?_
  rw [FO_1910, FO_2031]
  refine r_callS hX (c_X4_isIn _ _ _ _ _) ks_X4_38 rfl rfl (Nat.le_of_ble_eq_true rfl) ⟨(Nat.le_of_ble_eq_true rfl), (Nat.le_of_ble_eq_true rfl)⟩ ⟨(Nat.le_of_ble_eq_true rfl), (Nat.le_of_ble_eq_true rfl)⟩ dX4_isDay_17 (fun _ _ z => False.elim z) (fun v9 ws9 h => ?_)
  obtain ⟨rfl, hw9⟩ := h
  subst ws9
  dsimp only [mPush]
  refine r_zret hX hE dX4_isDay_20 (mB_n (f_isWithin_B _ _ _)) (Nat.le_of_ble_eq_true rfl) (Nat.le_of_ble_eq_true rfl) ⟨_, ?_, rfl, rfl⟩
  unfold f_isWithin
  split
  · rename_i q
    refine Or.inr ⟨rfl, ?_, ?_⟩
    · exact Int64.le_iff_toInt_le.mp q.1
    · exact Int64.le_iff_toInt_le.mp q.2
  · exact Or.inl ⟨rfl, trivial⟩
theorem nIge {L M : Nat} {x : Int32} (hL : L < 2 ^ 31) (hM : M < 2 ^ 31) (h : nI L ≤ x ∧ x ≤ nI M) : ∃ j, L ≤ j ∧ j ≤ M ∧ x = nI j := by
  have h0 : ¬ x < 0 := Int32.not_lt.mpr (Int32.le_trans (nI_pos' hL) h.1)
  obtain ⟨j, hj, rfl⟩ := nI_of h0
  exact ⟨j, (nI_leI hL hj).mp h.1, (nI_leI hj hM).mp h.2, rfl⟩
theorem fwin {x : Int32} {a b : Int64} (L M : Nat) (hL : L < 2 ^ 31) (hM : M < 2 ^ 31) (ha : a = (nI L).toInt64) (hb : b = (nI M).toInt64) (c : ¬ f_isWithin x.toInt64 a b = 0) : ∃ j, L ≤ j ∧ j < M + 1 ∧ x = nI j := by
  obtain ⟨j, h1, h2, h3⟩ := nIge hL hM (Classical.not_not.mp (fun q => c ((fwi ha hb).mpr q)))
  exact ⟨j, h1, by omega, h3⟩
theorem c_X4_isThere (tys : List (ClassId × FieldType)) (ws : va_W) (p0 p1 p2 : Int32) : mCt tys yX4_isThere cX4_isThere 3 (some .boolean) ⟨2, 0, 0, 45⟩ [.int p0, .int p1, .int p2] ws (fun v ws' => ∃ r, ((r = 0 ∧ True) ∨ (r = 1 ∧ ∃ y m d, 1910 ≤ y ∧ y ≤ 2030 ∧ 1 ≤ m ∧ m ≤ 12 ∧ 1 ≤ d ∧ d ≤ dm y m ∧ p0 = nI y ∧ p1 = nI m ∧ p2 = nI d)) ∧ v = some (.int r) ∧ ws' = ws) mNo := by
  refine mCt.of (by decide +kernel) (Nat.le_of_ble_eq_true rfl) (fun X hX hE => ?_)
  replace hX : mOK X RX4 cX4_isThere 3 ⟨2, 0, 0, 45⟩ [] tys := hX
  have no : ∀ lv, mV X 45 lv [] ws 0 0 := fun lv => by
    refine r_iconst (v := 0) hX dX4_isThere_45 (by decide) ?_
    exact r_zret hX hE dX4_isThere_46 (by decide) (Nat.le_of_ble_eq_true rfl) (Nat.le_of_ble_eq_true rfl) ⟨0, Or.inl ⟨rfl, trivial⟩, rfl, rfl⟩
  refine r_iload_n hX dX4_isThere_0 rfl rfl ?_
  refine r_i2l hX dX4_isThere_1 ?_
  refine r_ldc2 hX kc_X4_147 dX4_isThere_2 ?_
  refine r_ldc2 hX kc_X4_149 dX4_isThere_5 ?_
  refine r_callS hX (c_X4_isIn _ _ _ _ _) ks_X4_38 rfl rfl (Nat.le_of_ble_eq_true rfl) ⟨(Nat.le_of_ble_eq_true rfl), (Nat.le_of_ble_eq_true rfl)⟩ ⟨(Nat.le_of_ble_eq_true rfl), (Nat.le_of_ble_eq_true rfl)⟩ dX4_isThere_8 (fun _ _ z => False.elim z) (fun v9 ws9 h => ?_)
  obtain ⟨rfl, hw9⟩ := h
  subst ws9
  dsimp only [mPush]
  refine r_if_eq (tgt := 45) hX dX4_isThere_11 (by decide) (fun c => no _) (fun c => ?_)
  obtain ⟨y, hy1, hy2, rfl⟩ := fwin 1910 2030 (by decide) (by decide) (by decide) (by decide) c
  refine r_iload_n hX dX4_isThere_14 rfl rfl ?_
  refine r_i2l hX dX4_isThere_15 ?_
  refine r_lconst (v := 1) hX dX4_isThere_16 (by decide) ?_
  refine r_ldc2 hX kc_X4_151 dX4_isThere_17 ?_
  refine r_callS hX (c_X4_isIn _ _ _ _ _) ks_X4_38 rfl rfl (Nat.le_of_ble_eq_true rfl) ⟨(Nat.le_of_ble_eq_true rfl), (Nat.le_of_ble_eq_true rfl)⟩ ⟨(Nat.le_of_ble_eq_true rfl), (Nat.le_of_ble_eq_true rfl)⟩ dX4_isThere_20 (fun _ _ z => False.elim z) (fun v9 ws9 h => ?_)
  obtain ⟨rfl, hw9⟩ := h
  subst ws9
  dsimp only [mPush]
  refine r_if_eq (tgt := 45) hX dX4_isThere_23 (by decide) (fun c => no _) (fun c => ?_)
  obtain ⟨m, hm1, hm2, rfl⟩ := fwin 1 12 (by decide) (by decide) (by decide) (by decide) c
  refine r_iload_n hX dX4_isThere_26 rfl rfl ?_
  refine r_i2l hX dX4_isThere_27 ?_
  refine r_lconst (v := 1) hX dX4_isThere_28 (by decide) ?_
  refine r_iload_n hX dX4_isThere_29 rfl rfl ?_
  refine r_iload_n hX dX4_isThere_30 rfl rfl ?_
  refine r_callS hX (c_X4_daysOf _ _ y (by omega) m (by omega)) ks_X4_55 rfl rfl (Nat.le_of_ble_eq_true rfl) ⟨(Nat.le_of_ble_eq_true rfl), (Nat.le_of_ble_eq_true rfl)⟩ ⟨(Nat.le_of_ble_eq_true rfl), (Nat.le_of_ble_eq_true rfl)⟩ dX4_isThere_31 (fun _ _ z => False.elim z) (fun v9 ws9 h => ?_)
  obtain ⟨rfl, hw9⟩ := h
  subst ws9
  dsimp only [mPush]
  refine r_i2l hX dX4_isThere_34 ?_
  refine r_callS hX (c_X4_isIn _ _ _ _ _) ks_X4_38 rfl rfl (Nat.le_of_ble_eq_true rfl) ⟨(Nat.le_of_ble_eq_true rfl), (Nat.le_of_ble_eq_true rfl)⟩ ⟨(Nat.le_of_ble_eq_true rfl), (Nat.le_of_ble_eq_true rfl)⟩ dX4_isThere_35 (fun _ _ z => False.elim z) (fun v9 ws9 h => ?_)
  obtain ⟨rfl, hw9⟩ := h
  subst ws9
  dsimp only [mPush]
  refine r_if_eq (tgt := 45) hX dX4_isThere_38 (by decide) (fun c => no _) (fun c => ?_)
  have hdm := dm_b y m
  obtain ⟨d, hd1, hd2, rfl⟩ := fwin 1 (dm y m) (by decide) (by omega) (by decide) rfl c
  refine r_iconst (v := 1) hX dX4_isThere_41 (by decide) ?_
  refine r_goto (tgt := 46) hX dX4_isThere_42 (by decide) ?_
  exact r_zret hX hE dX4_isThere_46 (by decide) (Nat.le_of_ble_eq_true rfl) (Nat.le_of_ble_eq_true rfl) ⟨1, Or.inr ⟨rfl, y, m, d, hy1, by omega, hm1, by omega, hd1, by omega, rfl, rfl, rfl⟩, rfl, rfl⟩
/-- a day that is there lies in the years 1910 to 2030 -/
theorem day_in {y m d : Nat} (h1 : 1910 ≤ y) (h2 : y ≤ 2030) (h3 : 1 ≤ m) (h4 : m ≤ 12) (h5 : 1 ≤ d) (h6 : d ≤ dm y m) : -21915 ≤ FO y + DB y m + (d : Int) - 1 ∧ FO y + DB y m + (d : Int) - 1 ≤ 22279 := by
  have a1 := FO_m h1 (by omega)
  have a2 := FO_m (y := y + 1) (z := 2031) (by omega) (by decide)
  have a3 := FO_s (y := y) (by omega)
  have a4 := DB_t (y := y) h3 h4
  have a5 := DB_b (y := y) (m := m) (by omega)
  rw [FO_1910] at a1
  rw [FO_2031] at a2
  omega
/-- .. by its number in the year -/
theorem day_in2 {y n : Nat} (h1 : 1910 ≤ y) (h2 : y ≤ 2030) (h5 : 1 ≤ n) (h6 : n ≤ yl y) : -21915 ≤ FO y + (n : Int) - 1 ∧ FO y + (n : Int) - 1 ≤ 22279 := by
  have a1 := FO_m h1 (by omega)
  have a2 := FO_m (y := y + 1) (z := 2031) (by omega) (by decide)
  have a3 := FO_s (y := y) (by omega)
  rw [FO_1910] at a1
  rw [FO_2031] at a2
  omega
theorem mday {J : mJ} (h : mWF J) {j : Nat} (hj : j < 7) : ∃ d : Int, J.2.2.2.1 (nI j).toNatClampNeg = iZ d ∧ -21915 ≤ d ∧ d ≤ 22279 := by
  rw [nI_clamp (show j < 2 ^ 31 by omega)]
  exact h j hj
theorem mWF.put {J : mJ} (h : mWF J) {i : Nat} {x : Int32} (hx : ∃ d : Int, x = iZ d ∧ -21915 ≤ d ∧ d ≤ 22279) {a : Int32 × Int32 × Int32} {b : Nat → Int32} {c : Nat → Int64} {e f g : Nat → Int32} : mWF (a, b, c, upd J.2.2.2.1 i x, e, f, g) := by
  intro k hk
  obtain ⟨d, h1, h2, h3⟩ := hx
  by_cases q : k = i
  · exact ⟨d, by simp [upd, q, h1], h2, h3⟩
  · obtain ⟨d', h4, h5⟩ := h k hk
    exact ⟨d', by simp [upd, q, h4], h5⟩

