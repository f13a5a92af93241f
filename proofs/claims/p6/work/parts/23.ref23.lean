/-! The reference, its contracts (rows by a program of this repository). -/
theorem mlt2 {X : Int32} {j N : Nat} (e : X = nI N) (hN : N < 2 ^ 31) (hj : j < 2 ^ 31) (h : ¬ X ≤ nI j) : j < N := by
  rcases Nat.lt_or_ge j N with q | q
  · exact q
  · exact absurd (show X ≤ nI j by rw [e]; exact nI_le q hj) h
theorem mltg {X : Int32} {j M : Nat} (e : X = nI M) (hM : M < 2147483647) (hj : j ≤ M + 1) (h : ¬ X < nI j) : j < M + 1 := by
  rcases Nat.lt_or_ge M j with q | q
  · exact absurd (show X < nI j by rw [e]; exact nI_lt q (by omega)) h
  · omega
def mbP (x : Int64) : Prop := ∃ z : Int, x = lZ z ∧ -100000000000 ≤ z ∧ z ≤ 100000000000
theorem mb0 (p : Int32) : ∃ z : Int, p.toInt64 = lZ z ∧ -2147483648 ≤ z ∧ z ≤ 2147483648 := ⟨p.toInt, (Int64.ofInt_int32ToInt p).symm, by have := Int32.le_toInt p; omega, by have := Int32.toInt_lt p; omega⟩
theorem mb1 (p : Int32) : mbP p.toInt64 := by
  obtain ⟨z, h1, h2, h3⟩ := mb0 p
  exact ⟨z, h1, by omega, by omega⟩
theorem mb2 (p : Int32) : mbP (-p.toInt64) := by
  obtain ⟨z, h1, h2, h3⟩ := mb0 p
  exact ⟨-z, by rw [h1, lZ_neg], by omega, by omega⟩
theorem mb3 (p : Int32) : mbP (12 * p.toInt64) := by
  obtain ⟨z, h1, h2, h3⟩ := mb0 p
  exact ⟨12 * z, by rw [h1, show (12 : Int64) = lZ 12 from rfl, lZ_mul], by omega, by omega⟩
theorem mb4 (p : Int32) : mbP (12 * -p.toInt64) := by
  obtain ⟨z, h1, h2, h3⟩ := mb0 p
  exact ⟨12 * -z, by rw [h1, show (12 : Int64) = lZ 12 from rfl, lZ_neg, lZ_mul], by omega, by omega⟩
theorem dX4_no_0 : decode cX4_no 0 = .ok (.aload_n 0, 1) := by decide +kernel
theorem dX4_no_1 : decode cX4_no 1 = .ok (.dup, 1) := by decide +kernel
theorem dX4_no_2 : decode cX4_no 2 = .ok (.getfield 33, 3) := by decide +kernel
theorem dX4_no_5 : decode cX4_no 5 = .ok (.iconst 1, 1) := by decide +kernel
theorem dX4_no_6 : decode cX4_no 6 = .ok (.iadd, 1) := by decide +kernel
theorem dX4_no_7 : decode cX4_no 7 = .ok (.putfield 33, 3) := by decide +kernel
theorem dX4_no_10 : decode cX4_no 10 = .ok (.bipush (-9), 2) := by decide +kernel
theorem dX4_no_12 : decode cX4_no 12 = .ok (.ireturn, 1) := by decide +kernel
theorem c_X4_no (ad ae : Nat → Nat) (cs : ClassId × ClassId × ClassId) (K : mK) (J : mJ) (rest : va_W) : mCt (mTy cs) yX4_no cX4_no 1 (some .int) ⟨0, 0, 0, 0⟩ [.ref (ae 0)] (mRw ad ae cs K J rest) (fun v ws' => ∃ J', J'.1 = (J.1.1, J.1.2.1, J.1.2.2 + 1) ∧ J'.2 = J.2 ∧ v = some (.int (-9)) ∧ ws' = mRw ad ae cs K J' rest) mNo := by
  refine mCt.of (by decide +kernel) (Nat.le_of_ble_eq_true rfl) (fun X hX hE => ?_)
  replace hX : mOK X RX4 cX4_no 1 ⟨0, 0, 0, 0⟩ [] (mTy cs) := hX
  refine r_aload_n hX dX4_no_0 rfl rfl ?_
  refine r_dup hX dX4_no_1 rfl ?_
  refine r_get hX kf_X4_33 14 rfl rfl dX4_no_2 ?_
  refine r_iconst (v := 1) hX dX4_no_5 (by decide) ?_
  refine r_iadd hX dX4_no_6 ?_
  refine r_put hX kf_X4_33 14 rfl rfl rfl rfl (Nat.le_of_ble_eq_true rfl) dX4_no_7 ?_
  refine r_bipush (v := -9) hX dX4_no_10 (by decide) ?_
  exact r_iret hX hE dX4_no_12 (Nat.le_of_ble_eq_true rfl) (Nat.le_of_ble_eq_true rfl) ⟨((J.1.1, J.1.2.1, J.1.2.2 + 1), J.2), rfl, rfl, rfl, rfl⟩
set_option maxHeartbeats 4000000 in
set_option maxRecDepth 20000 in
theorem c_X4_whole (tys : List (ClassId × FieldType)) (ws : va_W) (p0 : Int64) (p1 : Int64) (h0 : ¬ p1 = 0) : mCt tys yX4_whole cX4_whole 4 (some .long) ⟨0, 0, 0, 0⟩ [.long p0, .long p1] ws (mRl ws) mNo := by
  refine mCt.of (by decide +kernel) (Nat.le_of_ble_eq_true rfl) (fun X hX hE => ?_)
  have hX : mOK X RX4 cX4_whole 4 ⟨0, 0, 0, 0⟩ [] tys := hX
  refine r_lload_n hX dX4_whole_0 rfl rfl ?_
  refine r_lconst (v := 0) hX dX4_whole_1 (by decide) ?_
  refine r_lcmp hX dX4_whole_2 ?_
  refine r_if_lt (tgt := 12) hX dX4_whole_3 (by decide) (fun c1 => ?_) (fun c1 => ?_)
  · refine r_lload_n hX dX4_whole_12 rfl rfl ?_
    refine r_lneg hX dX4_whole_13 ?_
    refine r_lload_n hX dX4_whole_14 rfl rfl ?_
    refine r_ladd hX dX4_whole_15 ?_
    refine r_lconst (v := 1) hX dX4_whole_16 (by decide) ?_
    refine r_lsub hX dX4_whole_17 ?_
    refine r_lload_n hX dX4_whole_18 rfl rfl ?_
    refine r_ldiv hX dX4_whole_19 (by first | decide | assumption) ?_
    refine r_lneg hX dX4_whole_20 ?_
    exact r_lret hX hE dX4_whole_21 (Nat.le_of_ble_eq_true rfl) (Nat.le_of_ble_eq_true rfl) ⟨_, rfl, rfl⟩
  · refine r_lload_n hX dX4_whole_6 rfl rfl ?_
    refine r_lload_n hX dX4_whole_7 rfl rfl ?_
    refine r_ldiv hX dX4_whole_8 (by first | decide | assumption) ?_
    refine r_goto (tgt := 21) hX dX4_whole_9 (by decide) ?_
    exact r_lret hX hE dX4_whole_21 (Nat.le_of_ble_eq_true rfl) (Nat.le_of_ble_eq_true rfl) ⟨_, rfl, rfl⟩
set_option maxHeartbeats 4000000 in
set_option maxRecDepth 20000 in
theorem c_X4_rest (tys : List (ClassId × FieldType)) (ws : va_W) (p0 : Int64) (p1 : Int64) (h0 : ¬ p1 = 0) : mCt tys yX4_rest cX4_rest 4 (some .int) ⟨1, 0, 0, 23⟩ [.long p0, .long p1] ws (mRi ws) mNo := by
  refine mCt.of (by decide +kernel) (Nat.le_of_ble_eq_true rfl) (fun X hX hE => ?_)
  have hX : mOK X RX4 cX4_rest 4 ⟨1, 0, 0, 23⟩ [] tys := hX
  refine r_lload_n hX dX4_rest_0 rfl rfl ?_
  refine r_lload_n hX dX4_rest_1 rfl rfl ?_
  refine r_lload_n hX dX4_rest_2 rfl rfl ?_
  refine r_lload_n hX dX4_rest_3 rfl rfl ?_
  refine r_callS hX (c_X4_whole _ _ _ _ (by assumption)) ks_X4_92 rfl rfl (Nat.le_of_ble_eq_true rfl) ⟨(Nat.le_of_ble_eq_true rfl), (Nat.le_of_ble_eq_true rfl)⟩ ⟨(Nat.le_of_ble_eq_true rfl), (Nat.le_of_ble_eq_true rfl)⟩ dX4_rest_4 (fun _ _ z => False.elim z) (fun v9 ws9 h1 => ?_)
  obtain ⟨r3, rfl, hw9⟩ := h1
  subst ws9
  dsimp only [mPush]
  refine r_lmul hX dX4_rest_7 ?_
  refine r_lsub hX dX4_rest_8 ?_
  refine r_l2i hX dX4_rest_9 ?_
  exact r_iret hX hE dX4_rest_10 (Nat.le_of_ble_eq_true rfl) (Nat.le_of_ble_eq_true rfl) ⟨_, rfl, rfl⟩
theorem dX4_order_0 : decode cX4_order 0 = .ok (.lload_n 0, 1) := by decide +kernel
theorem dX4_order_1 : decode cX4_order 1 = .ok (.lload_n 2, 1) := by decide +kernel
theorem dX4_order_2 : decode cX4_order 2 = .ok (.lcmp, 1) := by decide +kernel
theorem dX4_order_3 : decode cX4_order 3 = .ok (.ifCond .ge 7, 3) := by decide +kernel
theorem dX4_order_6 : decode cX4_order 6 = .ok (.iconst (-1), 1) := by decide +kernel
theorem dX4_order_7 : decode cX4_order 7 = .ok (.goto 17, 3) := by decide +kernel
theorem dX4_order_10 : decode cX4_order 10 = .ok (.lload_n 0, 1) := by decide +kernel
theorem dX4_order_11 : decode cX4_order 11 = .ok (.lload_n 2, 1) := by decide +kernel
theorem dX4_order_12 : decode cX4_order 12 = .ok (.lcmp, 1) := by decide +kernel
theorem dX4_order_13 : decode cX4_order 13 = .ok (.ifCond .le 7, 3) := by decide +kernel
theorem dX4_order_16 : decode cX4_order 16 = .ok (.iconst 1, 1) := by decide +kernel
theorem dX4_order_17 : decode cX4_order 17 = .ok (.goto 4, 3) := by decide +kernel
theorem dX4_order_20 : decode cX4_order 20 = .ok (.iconst 0, 1) := by decide +kernel
theorem dX4_order_21 : decode cX4_order 21 = .ok (.invokestatic 84, 3) := by decide +kernel
theorem dX4_order_24 : decode cX4_order 24 = .ok (.ireturn, 1) := by decide +kernel
set_option maxHeartbeats 4000000 in
set_option maxRecDepth 20000 in
theorem c_X4_order (tys : List (ClassId × FieldType)) (ws : va_W) (p0 : Int64) (p1 : Int64) : mCt tys yX4_order cX4_order 4 (some .int) ⟨1, 0, 0, 20⟩ [.long p0, .long p1] ws (mRi ws) mNo := by
  refine mCt.of (by decide +kernel) (Nat.le_of_ble_eq_true rfl) (fun X hX hE => ?_)
  have hX : mOK X RX4 cX4_order 4 ⟨1, 0, 0, 20⟩ [] tys := hX
  refine r_lload_n hX dX4_order_0 rfl rfl ?_
  refine r_lload_n hX dX4_order_1 rfl rfl ?_
  refine r_lcmp hX dX4_order_2 ?_
  refine r_if_ge (tgt := 10) hX dX4_order_3 (by decide) (fun c1 => ?_) (fun c1 => ?_)
  · refine r_lload_n hX dX4_order_10 rfl rfl ?_
    refine r_lload_n hX dX4_order_11 rfl rfl ?_
    refine r_lcmp hX dX4_order_12 ?_
    refine r_if_le (tgt := 20) hX dX4_order_13 (by decide) (fun c2 => ?_) (fun c2 => ?_)
    · refine r_iconst (v := 0) hX dX4_order_20 (by decide) ?_
      refine r_callS hX (c_X4_one _ _ _) ks_X4_84 rfl rfl (Nat.le_of_ble_eq_true rfl) ⟨(Nat.le_of_ble_eq_true rfl), (Nat.le_of_ble_eq_true rfl)⟩ ⟨(Nat.le_of_ble_eq_true rfl), (Nat.le_of_ble_eq_true rfl)⟩ dX4_order_21 (fun _ _ z => False.elim z) (fun v9 ws9 h3 => ?_)
      obtain ⟨r5, rfl, hw9⟩ := h3
      subst ws9
      dsimp only [mPush]
      exact r_iret hX hE dX4_order_24 (Nat.le_of_ble_eq_true rfl) (Nat.le_of_ble_eq_true rfl) ⟨_, rfl, rfl⟩
    · refine r_iconst (v := 1) hX dX4_order_16 (by decide) ?_
      refine r_goto (tgt := 21) hX dX4_order_17 (by decide) ?_
      refine r_callS hX (c_X4_one _ _ _) ks_X4_84 rfl rfl (Nat.le_of_ble_eq_true rfl) ⟨(Nat.le_of_ble_eq_true rfl), (Nat.le_of_ble_eq_true rfl)⟩ ⟨(Nat.le_of_ble_eq_true rfl), (Nat.le_of_ble_eq_true rfl)⟩ dX4_order_21 (fun _ _ z => False.elim z) (fun v9 ws9 h6 => ?_)
      obtain ⟨r8, rfl, hw9⟩ := h6
      subst ws9
      dsimp only [mPush]
      exact r_iret hX hE dX4_order_24 (Nat.le_of_ble_eq_true rfl) (Nat.le_of_ble_eq_true rfl) ⟨_, rfl, rfl⟩
  · refine r_iconst (v := -1) hX dX4_order_6 (by decide) ?_
    refine r_goto (tgt := 24) hX dX4_order_7 (by decide) ?_
    exact r_iret hX hE dX4_order_24 (Nat.le_of_ble_eq_true rfl) (Nat.le_of_ble_eq_true rfl) ⟨_, rfl, rfl⟩
theorem dX4_secondsOf_0 : decode cX4_secondsOf 0 = .ok (.iload_n 0, 1) := by decide +kernel
theorem dX4_secondsOf_1 : decode cX4_secondsOf 1 = .ok (.iconst 4, 1) := by decide +kernel
theorem dX4_secondsOf_2 : decode cX4_secondsOf 2 = .ok (.if_icmp .ne 9, 3) := by decide +kernel
theorem dX4_secondsOf_5 : decode cX4_secondsOf 5 = .ok (.sipush 3600, 3) := by decide +kernel
theorem dX4_secondsOf_8 : decode cX4_secondsOf 8 = .ok (.goto 27, 3) := by decide +kernel
theorem dX4_secondsOf_11 : decode cX4_secondsOf 11 = .ok (.iload_n 0, 1) := by decide +kernel
theorem dX4_secondsOf_12 : decode cX4_secondsOf 12 = .ok (.iconst 5, 1) := by decide +kernel
theorem dX4_secondsOf_13 : decode cX4_secondsOf 13 = .ok (.if_icmp .ne 8, 3) := by decide +kernel
theorem dX4_secondsOf_16 : decode cX4_secondsOf 16 = .ok (.bipush 60, 2) := by decide +kernel
theorem dX4_secondsOf_18 : decode cX4_secondsOf 18 = .ok (.goto 17, 3) := by decide +kernel
theorem dX4_secondsOf_21 : decode cX4_secondsOf 21 = .ok (.iload_n 0, 1) := by decide +kernel
theorem dX4_secondsOf_22 : decode cX4_secondsOf 22 = .ok (.bipush 6, 2) := by decide +kernel
theorem dX4_secondsOf_24 : decode cX4_secondsOf 24 = .ok (.if_icmp .ne 7, 3) := by decide +kernel
theorem dX4_secondsOf_27 : decode cX4_secondsOf 27 = .ok (.iconst 1, 1) := by decide +kernel
theorem dX4_secondsOf_28 : decode cX4_secondsOf 28 = .ok (.goto 4, 3) := by decide +kernel
theorem dX4_secondsOf_31 : decode cX4_secondsOf 31 = .ok (.iconst 0, 1) := by decide +kernel
theorem dX4_secondsOf_32 : decode cX4_secondsOf 32 = .ok (.invokestatic 84, 3) := by decide +kernel
theorem dX4_secondsOf_35 : decode cX4_secondsOf 35 = .ok (.ireturn, 1) := by decide +kernel
set_option maxHeartbeats 4000000 in
set_option maxRecDepth 20000 in
theorem c_X4_secondsOf (tys : List (ClassId × FieldType)) (ws : va_W) (p0 : Int32) : mCt tys yX4_secondsOf cX4_secondsOf 1 (some .int) ⟨1, 0, 0, 20⟩ [.int p0] ws (mRi ws) mNo := by
  refine mCt.of (by decide +kernel) (Nat.le_of_ble_eq_true rfl) (fun X hX hE => ?_)
  have hX : mOK X RX4 cX4_secondsOf 1 ⟨1, 0, 0, 20⟩ [] tys := hX
  refine r_iload_n hX dX4_secondsOf_0 rfl rfl ?_
  refine r_iconst (v := 4) hX dX4_secondsOf_1 (by decide) ?_
  refine r_icmp_ne (tgt := 11) hX dX4_secondsOf_2 (by decide) (fun c1 => ?_) (fun c1 => ?_)
  · refine r_iload_n hX dX4_secondsOf_11 rfl rfl ?_
    refine r_iconst (v := 5) hX dX4_secondsOf_12 (by decide) ?_
    refine r_icmp_ne (tgt := 21) hX dX4_secondsOf_13 (by decide) (fun c2 => ?_) (fun c2 => ?_)
    · refine r_iload_n hX dX4_secondsOf_21 rfl rfl ?_
      refine r_bipush (v := 6) hX dX4_secondsOf_22 (by decide) ?_
      refine r_icmp_ne (tgt := 31) hX dX4_secondsOf_24 (by decide) (fun c3 => ?_) (fun c3 => ?_)
      · refine r_iconst (v := 0) hX dX4_secondsOf_31 (by decide) ?_
        refine r_callS hX (c_X4_one _ _ _) ks_X4_84 rfl rfl (Nat.le_of_ble_eq_true rfl) ⟨(Nat.le_of_ble_eq_true rfl), (Nat.le_of_ble_eq_true rfl)⟩ ⟨(Nat.le_of_ble_eq_true rfl), (Nat.le_of_ble_eq_true rfl)⟩ dX4_secondsOf_32 (fun _ _ z => False.elim z) (fun v9 ws9 h4 => ?_)
        obtain ⟨r6, rfl, hw9⟩ := h4
        subst ws9
        dsimp only [mPush]
        exact r_iret hX hE dX4_secondsOf_35 (Nat.le_of_ble_eq_true rfl) (Nat.le_of_ble_eq_true rfl) ⟨_, rfl, rfl⟩
      · refine r_iconst (v := 1) hX dX4_secondsOf_27 (by decide) ?_
        refine r_goto (tgt := 32) hX dX4_secondsOf_28 (by decide) ?_
        refine r_callS hX (c_X4_one _ _ _) ks_X4_84 rfl rfl (Nat.le_of_ble_eq_true rfl) ⟨(Nat.le_of_ble_eq_true rfl), (Nat.le_of_ble_eq_true rfl)⟩ ⟨(Nat.le_of_ble_eq_true rfl), (Nat.le_of_ble_eq_true rfl)⟩ dX4_secondsOf_32 (fun _ _ z => False.elim z) (fun v9 ws9 h7 => ?_)
        obtain ⟨r9, rfl, hw9⟩ := h7
        subst ws9
        dsimp only [mPush]
        exact r_iret hX hE dX4_secondsOf_35 (Nat.le_of_ble_eq_true rfl) (Nat.le_of_ble_eq_true rfl) ⟨_, rfl, rfl⟩
    · refine r_bipush (v := 60) hX dX4_secondsOf_16 (by decide) ?_
      refine r_goto (tgt := 35) hX dX4_secondsOf_18 (by decide) ?_
      exact r_iret hX hE dX4_secondsOf_35 (Nat.le_of_ble_eq_true rfl) (Nat.le_of_ble_eq_true rfl) ⟨_, rfl, rfl⟩
  · refine r_sipush (v := 3600) hX dX4_secondsOf_5 (by decide) ?_
    refine r_goto (tgt := 35) hX dX4_secondsOf_8 (by decide) ?_
    exact r_iret hX hE dX4_secondsOf_35 (Nat.le_of_ble_eq_true rfl) (Nat.le_of_ble_eq_true rfl) ⟨_, rfl, rfl⟩
theorem dX4_isTime_0 : decode cX4_isTime 0 = .ok (.iload_n 0, 1) := by decide +kernel
theorem dX4_isTime_1 : decode cX4_isTime 1 = .ok (.i2l, 1) := by decide +kernel
theorem dX4_isTime_2 : decode cX4_isTime 2 = .ok (.lconst 0, 1) := by decide +kernel
theorem dX4_isTime_3 : decode cX4_isTime 3 = .ok (.ldc2_w 143, 3) := by decide +kernel
theorem dX4_isTime_6 : decode cX4_isTime 6 = .ok (.invokestatic 38, 3) := by decide +kernel
theorem dX4_isTime_9 : decode cX4_isTime 9 = .ok (.ifCond .eq 19, 3) := by decide +kernel
theorem dX4_isTime_12 : decode cX4_isTime 12 = .ok (.iload_n 1, 1) := by decide +kernel
theorem dX4_isTime_13 : decode cX4_isTime 13 = .ok (.i2l, 1) := by decide +kernel
theorem dX4_isTime_14 : decode cX4_isTime 14 = .ok (.lconst 0, 1) := by decide +kernel
theorem dX4_isTime_15 : decode cX4_isTime 15 = .ok (.ldc2_w 145, 3) := by decide +kernel
theorem dX4_isTime_18 : decode cX4_isTime 18 = .ok (.invokestatic 38, 3) := by decide +kernel
theorem dX4_isTime_21 : decode cX4_isTime 21 = .ok (.ifCond .eq 7, 3) := by decide +kernel
theorem dX4_isTime_24 : decode cX4_isTime 24 = .ok (.iconst 1, 1) := by decide +kernel
theorem dX4_isTime_25 : decode cX4_isTime 25 = .ok (.goto 4, 3) := by decide +kernel
theorem dX4_isTime_28 : decode cX4_isTime 28 = .ok (.iconst 0, 1) := by decide +kernel
theorem dX4_isTime_29 : decode cX4_isTime 29 = .ok (.ireturn, 1) := by decide +kernel
set_option maxHeartbeats 4000000 in
set_option maxRecDepth 20000 in
theorem c_X4_isTime (tys : List (ClassId × FieldType)) (ws : va_W) (p0 : Int32) (p1 : Int32) : mCt tys yX4_isTime cX4_isTime 2 (some .boolean) ⟨1, 0, 0, 25⟩ [.int p0, .int p1] ws (mRb ws) mNo := by
  refine mCt.of (by decide +kernel) (Nat.le_of_ble_eq_true rfl) (fun X hX hE => ?_)
  have hX : mOK X RX4 cX4_isTime 2 ⟨1, 0, 0, 25⟩ [] tys := hX
  refine r_iload_n hX dX4_isTime_0 rfl rfl ?_
  refine r_i2l hX dX4_isTime_1 ?_
  refine r_lconst (v := 0) hX dX4_isTime_2 (by decide) ?_
  refine r_ldc2 hX kc_X4_143 dX4_isTime_3 ?_
  refine r_callS hX (c_X4_isIn _ _ _ _ _) ks_X4_38 rfl rfl (Nat.le_of_ble_eq_true rfl) ⟨(Nat.le_of_ble_eq_true rfl), (Nat.le_of_ble_eq_true rfl)⟩ ⟨(Nat.le_of_ble_eq_true rfl), (Nat.le_of_ble_eq_true rfl)⟩ dX4_isTime_6 (fun _ _ z => False.elim z) (fun v9 ws9 h1 => ?_)
  obtain ⟨rfl, hw9⟩ := h1
  subst ws9
  dsimp only [mPush]
  refine r_if_eq (tgt := 28) hX dX4_isTime_9 (by decide) (fun c3 => ?_) (fun c3 => ?_)
  · refine r_iconst (v := 0) hX dX4_isTime_28 (by decide) ?_
    exact r_zret hX hE dX4_isTime_29 (mB_n (Or.inl rfl)) (Nat.le_of_ble_eq_true rfl) (Nat.le_of_ble_eq_true rfl) ⟨_, (Or.inl rfl), rfl, rfl⟩
  · obtain ⟨i4, li4, hhi4, rfl⟩ := fwin 0 86399 (by decide) (by decide) (by decide) (by decide) c3
    refine r_iload_n hX dX4_isTime_12 rfl rfl ?_
    refine r_i2l hX dX4_isTime_13 ?_
    refine r_lconst (v := 0) hX dX4_isTime_14 (by decide) ?_
    refine r_ldc2 hX kc_X4_145 dX4_isTime_15 ?_
    refine r_callS hX (c_X4_isIn _ _ _ _ _) ks_X4_38 rfl rfl (Nat.le_of_ble_eq_true rfl) ⟨(Nat.le_of_ble_eq_true rfl), (Nat.le_of_ble_eq_true rfl)⟩ ⟨(Nat.le_of_ble_eq_true rfl), (Nat.le_of_ble_eq_true rfl)⟩ dX4_isTime_18 (fun _ _ z => False.elim z) (fun v9 ws9 h5 => ?_)
    obtain ⟨rfl, hw9⟩ := h5
    subst ws9
    dsimp only [mPush]
    refine r_if_eq (tgt := 28) hX dX4_isTime_21 (by decide) (fun c7 => ?_) (fun c7 => ?_)
    · refine r_iconst (v := 0) hX dX4_isTime_28 (by decide) ?_
      exact r_zret hX hE dX4_isTime_29 (mB_n (Or.inl rfl)) (Nat.le_of_ble_eq_true rfl) (Nat.le_of_ble_eq_true rfl) ⟨_, (Or.inl rfl), rfl, rfl⟩
    · obtain ⟨i8, li8, hhi8, rfl⟩ := fwin 0 999999999 (by decide) (by decide) (by decide) (by decide) c7
      refine r_iconst (v := 1) hX dX4_isTime_24 (by decide) ?_
      refine r_goto (tgt := 29) hX dX4_isTime_25 (by decide) ?_
      exact r_zret hX hE dX4_isTime_29 (mB_n (Or.inr rfl)) (Nat.le_of_ble_eq_true rfl) (Nat.le_of_ble_eq_true rfl) ⟨_, (Or.inr rfl), rfl, rfl⟩
