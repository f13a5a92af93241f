/-! The law's wrappers of offset, offsetOf, seconds, exact. (Rows by a program of this repository.) -/
theorem dL_seconds_0 : decode cL_seconds 0 = .ok (.aload_n 2, 1) := by decide +kernel
theorem dL_seconds_1 : decode cL_seconds 1 = .ok (.aload_n 0, 1) := by decide +kernel
theorem dL_seconds_2 : decode cL_seconds 2 = .ok (.iload_n 1, 1) := by decide +kernel
theorem dL_seconds_3 : decode cL_seconds 3 = .ok (.invokevirtual 27, 3) := by decide +kernel
theorem dL_seconds_6 : decode cL_seconds 6 = .ok (.i2l, 1) := by decide +kernel
theorem dL_seconds_7 : decode cL_seconds 7 = .ok (.putfield 13, 3) := by decide +kernel
theorem dL_seconds_10 : decode cL_seconds 10 = .ok (.goto 6, 3) := by decide +kernel
theorem dL_seconds_13 : decode cL_seconds 13 = .ok (.astore_n 3, 1) := by decide +kernel
theorem dL_seconds_14 : decode cL_seconds 14 = .ok (.iconst 1, 1) := by decide +kernel
theorem dL_seconds_15 : decode cL_seconds 15 = .ok (.ireturn, 1) := by decide +kernel
theorem dL_seconds_16 : decode cL_seconds 16 = .ok (.iconst 0, 1) := by decide +kernel
theorem dL_seconds_17 : decode cL_seconds 17 = .ok (.ireturn, 1) := by decide +kernel
set_option maxHeartbeats 1000000 in
theorem c_L_seconds (ad ae : Nat → Nat) (cs : ClassId × ClassId × ClassId) (K : mK) (J : mJ) (rest : va_W) (ao : Nat) (n0 : Int64) (s0 : Value) (p0 : Int32) : mCw (mTy cs) yL_seconds cL_seconds 4 (some .int) [(0, 10, 13, 19)] ⟨8, 1, 6, 124⟩ [.ref (ad 0), .int p0, .ref ao] (mRw ad ae cs K J ((ao, .inr (4, [.long n0, s0])) :: rest)) (fun v ws' => (∃ j, j < 4 ∧ p0 = nI j ∧ v = some (.int 0) ∧ ws' = (mRw ad ae cs K J ((ao, .inr (4, [.long (K.1 j).toInt64, s0])) :: rest))) ∨ (v = some (.int 1) ∧ ¬ vp_in p0 4 ∧ ws' = (mRw ad ae cs K J ((ao, .inr (4, [.long n0, s0])) :: rest)))) := by
  refine mCw.of (by decide +kernel) (Nat.le_of_ble_eq_true rfl) (fun X hX hg hE => ?_)
  replace hX : mOK X RL cL_seconds 4 ⟨8, 1, 6, 124⟩ [(0, 10, 13, 19)] (mTy cs) := hX
  refine r_aload_n hX dL_seconds_0 rfl rfl ?_
  refine r_aload_n hX dL_seconds_1 rfl rfl ?_
  refine r_iload_n hX dL_seconds_2 rfl rfl ?_
  refine r_callV hX (c_X2_seconds ad cs K _ _) kv_L_27 0 rfl rfl rfl rfl (Nat.le_of_ble_eq_true rfl) ⟨(Nat.le_of_ble_eq_true rfl), (Nat.le_of_ble_eq_true rfl)⟩ ⟨(Nat.le_of_ble_eq_true rfl), (Nat.le_of_ble_eq_true rfl)⟩ dL_seconds_3 (fun E ws9 z => ?_) (fun v9 ws9 h9 => ?_)
  · obtain ⟨rfl, rfl, zn⟩ := z
    refine r_catch1 hX rfl (by decide) kl_L_19 kca_I (fun q => ?_)
    refine r_astore_n hX dL_seconds_13 rfl (by decide) rfl ?_
    refine r_iconst (v := 1) hX dL_seconds_14 (by decide) ?_
    exact r_iret hX hE dL_seconds_15 (Nat.le_of_ble_eq_true rfl) (Nat.le_of_ble_eq_true rfl) (Or.inr ⟨rfl, zn, rfl⟩)
  obtain ⟨j, hj, rfl, rfl, hw9⟩ := h9
  subst ws9
  dsimp only [mPush]
  refine r_i2l hX dL_seconds_6 ?_
  refine r_putN hX kg_L_13 21 rfl rfl rfl rfl (Nat.le_of_ble_eq_true rfl) dL_seconds_7 ?_
  refine r_goto (tgt := 16) hX dL_seconds_10 (by decide) ?_
  refine r_iconst (v := 0) hX dL_seconds_16 (by decide) ?_
  exact r_iret hX hE dL_seconds_17 (Nat.le_of_ble_eq_true rfl) (Nat.le_of_ble_eq_true rfl) (Or.inl ⟨j, hj, rfl, rfl, rfl⟩)
theorem dL_offsetOf_0 : decode cL_offsetOf 0 = .ok (.aload 5, 2) := by decide +kernel
theorem dL_offsetOf_2 : decode cL_offsetOf 2 = .ok (.aload_n 0, 1) := by decide +kernel
theorem dL_offsetOf_3 : decode cL_offsetOf 3 = .ok (.iload_n 1, 1) := by decide +kernel
theorem dL_offsetOf_4 : decode cL_offsetOf 4 = .ok (.iload_n 2, 1) := by decide +kernel
theorem dL_offsetOf_5 : decode cL_offsetOf 5 = .ok (.iload_n 3, 1) := by decide +kernel
theorem dL_offsetOf_6 : decode cL_offsetOf 6 = .ok (.iload 4, 2) := by decide +kernel
theorem dL_offsetOf_8 : decode cL_offsetOf 8 = .ok (.invokevirtual 23, 3) := by decide +kernel
theorem dL_offsetOf_11 : decode cL_offsetOf 11 = .ok (.i2l, 1) := by decide +kernel
theorem dL_offsetOf_12 : decode cL_offsetOf 12 = .ok (.putfield 13, 3) := by decide +kernel
theorem dL_offsetOf_15 : decode cL_offsetOf 15 = .ok (.goto 7, 3) := by decide +kernel
theorem dL_offsetOf_18 : decode cL_offsetOf 18 = .ok (.astore 6, 2) := by decide +kernel
theorem dL_offsetOf_20 : decode cL_offsetOf 20 = .ok (.iconst 1, 1) := by decide +kernel
theorem dL_offsetOf_21 : decode cL_offsetOf 21 = .ok (.ireturn, 1) := by decide +kernel
theorem dL_offsetOf_22 : decode cL_offsetOf 22 = .ok (.iconst 0, 1) := by decide +kernel
theorem dL_offsetOf_23 : decode cL_offsetOf 23 = .ok (.ireturn, 1) := by decide +kernel
set_option maxHeartbeats 1000000 in
theorem c_L_offsetOf (ad ae : Nat → Nat) (cs : ClassId × ClassId × ClassId) (K : mK) (J : mJ) (rest : va_W) (ao : Nat) (n0 : Int64) (s0 : Value) (p0 : Int32) (p1 : Int32) (p2 : Int32) (p3 : Int32) : mCw (mTy cs) yL_offsetOf cL_offsetOf 7 (some .int) [(0, 15, 18, 19)] ⟨8, 1, 6, 130⟩ [.ref (ad 0), .int p0, .int p1, .int p2, .int p3, .ref ao] (mRw ad ae cs K J ((ao, .inr (4, [.long n0, s0])) :: rest)) (fun v ws' => (∃ j K', j < 4 ∧ p0 = nI j ∧ K'.1 = f_offS K.1 j (f_off p1 p2 p3) ∧ v = some (.int 0) ∧ ws' = (mRw ad ae cs K' J ((ao, .inr (4, [.long ((f_off p1 p2 p3).getD (-9)).toInt64, s0])) :: rest))) ∨ (v = some (.int 1) ∧ ¬ vp_in p0 4 ∧ ws' = (mRw ad ae cs K J ((ao, .inr (4, [.long n0, s0])) :: rest)))) := by
  refine mCw.of (by decide +kernel) (Nat.le_of_ble_eq_true rfl) (fun X hX hg hE => ?_)
  replace hX : mOK X RL cL_offsetOf 7 ⟨8, 1, 6, 130⟩ [(0, 15, 18, 19)] (mTy cs) := hX
  refine r_aload hX dL_offsetOf_0 rfl ?_
  refine r_aload_n hX dL_offsetOf_2 rfl rfl ?_
  refine r_iload_n hX dL_offsetOf_3 rfl rfl ?_
  refine r_iload_n hX dL_offsetOf_4 rfl rfl ?_
  refine r_iload_n hX dL_offsetOf_5 rfl rfl ?_
  refine r_iload hX dL_offsetOf_6 rfl ?_
  refine r_callV hX (c_X2_offsetOf ad cs K _ _ _ _ _) kv_L_23 0 rfl rfl rfl rfl (Nat.le_of_ble_eq_true rfl) ⟨(Nat.le_of_ble_eq_true rfl), (Nat.le_of_ble_eq_true rfl)⟩ ⟨(Nat.le_of_ble_eq_true rfl), (Nat.le_of_ble_eq_true rfl)⟩ dL_offsetOf_8 (fun E ws9 z => ?_) (fun v9 ws9 h9 => ?_)
  · obtain ⟨rfl, rfl, zn⟩ := z
    refine r_catch1 hX rfl (by decide) kl_L_19 kca_I (fun q => ?_)
    refine r_astore hX dL_offsetOf_18 (by decide) rfl ?_
    refine r_iconst (v := 1) hX dL_offsetOf_20 (by decide) ?_
    exact r_iret hX hE dL_offsetOf_21 (Nat.le_of_ble_eq_true rfl) (Nat.le_of_ble_eq_true rfl) (Or.inr ⟨rfl, zn, rfl⟩)
  obtain ⟨j, K9, hj, rfl, hK9, rfl, hw9⟩ := h9
  subst ws9
  dsimp only [mPush]
  refine r_i2l hX dL_offsetOf_11 ?_
  refine r_putN hX kg_L_13 21 rfl rfl rfl rfl (Nat.le_of_ble_eq_true rfl) dL_offsetOf_12 ?_
  refine r_goto (tgt := 22) hX dL_offsetOf_15 (by decide) ?_
  refine r_iconst (v := 0) hX dL_offsetOf_22 (by decide) ?_
  exact r_iret hX hE dL_offsetOf_23 (Nat.le_of_ble_eq_true rfl) (Nat.le_of_ble_eq_true rfl) (Or.inl ⟨j, K9, hj, rfl, hK9, rfl, rfl⟩)
theorem dL_offset_0 : decode cL_offset 0 = .ok (.aload_n 3, 1) := by decide +kernel
theorem dL_offset_1 : decode cL_offset 1 = .ok (.aload_n 0, 1) := by decide +kernel
theorem dL_offset_2 : decode cL_offset 2 = .ok (.iload_n 1, 1) := by decide +kernel
theorem dL_offset_3 : decode cL_offset 3 = .ok (.iload_n 2, 1) := by decide +kernel
theorem dL_offset_4 : decode cL_offset 4 = .ok (.invokevirtual 7, 3) := by decide +kernel
theorem dL_offset_7 : decode cL_offset 7 = .ok (.i2l, 1) := by decide +kernel
theorem dL_offset_8 : decode cL_offset 8 = .ok (.putfield 13, 3) := by decide +kernel
theorem dL_offset_11 : decode cL_offset 11 = .ok (.goto 11, 3) := by decide +kernel
theorem dL_offset_14 : decode cL_offset 14 = .ok (.astore 4, 2) := by decide +kernel
theorem dL_offset_16 : decode cL_offset 16 = .ok (.iconst 1, 1) := by decide +kernel
theorem dL_offset_17 : decode cL_offset 17 = .ok (.ireturn, 1) := by decide +kernel
theorem dL_offset_18 : decode cL_offset 18 = .ok (.astore 4, 2) := by decide +kernel
theorem dL_offset_20 : decode cL_offset 20 = .ok (.iconst 2, 1) := by decide +kernel
theorem dL_offset_21 : decode cL_offset 21 = .ok (.ireturn, 1) := by decide +kernel
theorem dL_offset_22 : decode cL_offset 22 = .ok (.iconst 0, 1) := by decide +kernel
theorem dL_offset_23 : decode cL_offset 23 = .ok (.ireturn, 1) := by decide +kernel
set_option maxHeartbeats 1000000 in
theorem c_L_offset (ad ae : Nat → Nat) (cs : ClassId × ClassId × ClassId) (K : mK) (J : mJ) (rest : va_W) (ao : Nat) (n0 : Int64) (s0 : Value) (p0 : Int32) (p1 : Int32) : mCw (mTy cs) yL_offset cL_offset 5 (some .int) [(0, 11, 14, 19), (0, 11, 18, 21)] ⟨8, 2, 12, 127⟩ [.ref (ad 0), .int p0, .int p1, .ref ao] (mRw ad ae cs K J ((ao, .inr (4, [.long n0, s0])) :: rest)) (fun v ws' => (∃ j, j < 4 ∧ p0 = nI j ∧ (-64800 ≤ p1 ∧ p1 ≤ 64800) ∧ v = some (.int 0) ∧ ws' = (mRw ad ae cs (upd K.1 j p1, K.2) J ((ao, .inr (4, [.long (K.1 j).toInt64, s0])) :: rest))) ∨ (v = some (.int 1) ∧ ¬ vp_in p0 4 ∧ ws' = (mRw ad ae cs K J ((ao, .inr (4, [.long n0, s0])) :: rest))) ∨ (v = some (.int 2) ∧ vp_in p0 4 ∧ ¬ (-64800 ≤ p1 ∧ p1 ≤ 64800) ∧ ws' = (mRw ad ae cs K J ((ao, .inr (4, [.long n0, s0])) :: rest)))) := by
  refine mCw.of (by decide +kernel) (Nat.le_of_ble_eq_true rfl) (fun X hX hg hE => ?_)
  replace hX : mOK X RL cL_offset 5 ⟨8, 2, 12, 127⟩ [(0, 11, 14, 19), (0, 11, 18, 21)] (mTy cs) := hX
  refine r_aload_n hX dL_offset_0 rfl rfl ?_
  refine r_aload_n hX dL_offset_1 rfl rfl ?_
  refine r_iload_n hX dL_offset_2 rfl rfl ?_
  refine r_iload_n hX dL_offset_3 rfl rfl ?_
  refine r_callV hX (c_X2_offset ad cs K _ _ _) kv_L_7 0 rfl rfl rfl rfl (Nat.le_of_ble_eq_true rfl) ⟨(Nat.le_of_ble_eq_true rfl), (Nat.le_of_ble_eq_true rfl)⟩ ⟨(Nat.le_of_ble_eq_true rfl), (Nat.le_of_ble_eq_true rfl)⟩ dL_offset_4 (fun E ws9 z => ?_) (fun v9 ws9 h9 => ?_)
  · rcases z with ⟨rfl, rfl, zn⟩ | ⟨rfl, rfl, zn, zm⟩
    ·
      refine r_catch1 hX rfl (by decide) kl_L_19 kca_I (fun q => ?_)
      refine r_astore hX dL_offset_14 (by decide) rfl ?_
      refine r_iconst (v := 1) hX dL_offset_16 (by decide) ?_
      exact r_iret hX hE dL_offset_17 (Nat.le_of_ble_eq_true rfl) (Nat.le_of_ble_eq_true rfl) (Or.inr (Or.inl ⟨rfl, zn, rfl⟩))
    ·
      refine r_catch2 hX hg (by decide) kl_L_19 rfl (by decide) kl_L_21 (fun q => ?_)
      refine r_astore hX dL_offset_18 (by decide) rfl ?_
      refine r_iconst (v := 2) hX dL_offset_20 (by decide) ?_
      exact r_iret hX hE dL_offset_21 (Nat.le_of_ble_eq_true rfl) (Nat.le_of_ble_eq_true rfl) (Or.inr (Or.inr ⟨rfl, zn, zm, rfl⟩))
  obtain ⟨j, hj, rfl, hr, rfl, hw9⟩ := h9
  subst ws9
  dsimp only [mPush]
  refine r_i2l hX dL_offset_7 ?_
  refine r_putN hX kg_L_13 21 rfl rfl rfl rfl (Nat.le_of_ble_eq_true rfl) dL_offset_8 ?_
  refine r_goto (tgt := 22) hX dL_offset_11 (by decide) ?_
  refine r_iconst (v := 0) hX dL_offset_22 (by decide) ?_
  exact r_iret hX hE dL_offset_23 (Nat.le_of_ble_eq_true rfl) (Nat.le_of_ble_eq_true rfl) (Or.inl ⟨j, hj, rfl, hr, rfl, rfl⟩)
