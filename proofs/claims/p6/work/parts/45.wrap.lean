/-! The law's wrappers. (Rows by a program of this repository.) -/
theorem dL_orderOffset_0 : decode cL_orderOffset 0 = .ok (.aload_n 3, 1) := by decide +kernel
theorem dL_orderOffset_1 : decode cL_orderOffset 1 = .ok (.aload_n 0, 1) := by decide +kernel
theorem dL_orderOffset_2 : decode cL_orderOffset 2 = .ok (.iload_n 1, 1) := by decide +kernel
theorem dL_orderOffset_3 : decode cL_orderOffset 3 = .ok (.iload_n 2, 1) := by decide +kernel
theorem dL_orderOffset_4 : decode cL_orderOffset 4 = .ok (.invokevirtual 31, 3) := by decide +kernel
theorem dL_orderOffset_7 : decode cL_orderOffset 7 = .ok (.i2l, 1) := by decide +kernel
theorem dL_orderOffset_8 : decode cL_orderOffset 8 = .ok (.putfield 13, 3) := by decide +kernel
theorem dL_orderOffset_11 : decode cL_orderOffset 11 = .ok (.goto 7, 3) := by decide +kernel
theorem dL_orderOffset_14 : decode cL_orderOffset 14 = .ok (.astore 4, 2) := by decide +kernel
theorem dL_orderOffset_16 : decode cL_orderOffset 16 = .ok (.iconst 1, 1) := by decide +kernel
theorem dL_orderOffset_17 : decode cL_orderOffset 17 = .ok (.ireturn, 1) := by decide +kernel
theorem dL_orderOffset_18 : decode cL_orderOffset 18 = .ok (.iconst 0, 1) := by decide +kernel
theorem dL_orderOffset_19 : decode cL_orderOffset 19 = .ok (.ireturn, 1) := by decide +kernel
set_option maxHeartbeats 1000000 in
theorem c_L_orderOffset (ad ae : Nat → Nat) (cs : ClassId × ClassId × ClassId) (K : mK) (J : mJ) (rest : va_W) (ao : Nat) (n0 : Int64) (s0 : Value) (p0 : Int32) (p1 : Int32) : mCw (mTy cs) yL_orderOffset cL_orderOffset 5 (some .int) [(0, 11, 14, 19)] ⟨9, 2, 12, 146⟩ [.ref (ad 0), .int p0, .int p1, .ref ao] (mRw ad ae cs K J ((ao, .inr (4, [.long n0, s0])) :: rest)) (fun v ws' => ∃ (r : Int32) (K' : mK) (n1 : Int64) (s1 : Value), K'.1 = K.1 ∧ v = some (.int r) ∧ ws' = mRw ad ae cs K' J ((ao, .inr (4, [.long n1, s1])) :: rest)) := by
  refine mCw.of (by decide +kernel) (Nat.le_of_ble_eq_true rfl) (fun X hX hg hE => ?_)
  replace hX : mOK X RL cL_orderOffset 5 ⟨9, 2, 12, 146⟩ [(0, 11, 14, 19)] (mTy cs) := hX
  refine r_aload_n hX dL_orderOffset_0 rfl rfl ?_
  refine r_aload_n hX dL_orderOffset_1 rfl rfl ?_
  refine r_iload_n hX dL_orderOffset_2 rfl rfl ?_
  refine r_iload_n hX dL_orderOffset_3 rfl rfl ?_
  have kx : ∀ (E : String) (ws9 : va_W), mTh [xI] (mRw ad ae cs K J ((ao, .inr (4, [.long n0, s0])) :: rest)) E ws9 → mT X 4 [(0, some (.ref (ad 0))), (1, some (.int p0)), (2, some (.int p1)), (3, some (.ref ao))] [.ref ao] ws9 (0 + 2) (0 + 12) E := by
    intro E ws9 z
    obtain ⟨zE, zw⟩ := z
    subst zw
    obtain rfl := List.mem_singleton.mp zE
    refine r_catch1 hX rfl (by decide) kl_L_19 kca_I (fun q => ?_)
    refine r_astore hX dL_orderOffset_14 (by decide) rfl ?_
    refine r_iconst (v := 1) hX dL_orderOffset_16 (by decide) ?_
    exact r_iret hX hE dL_orderOffset_17 (Nat.le_of_ble_eq_true rfl) (Nat.le_of_ble_eq_true rfl) ⟨_, K, _, _, rfl, rfl, rfl⟩
  refine r_callV hX (c_X2_orderOffset ad cs K _ _ _) kv_L_31 0 rfl rfl rfl rfl (Nat.le_of_ble_eq_true rfl) ⟨(Nat.le_of_ble_eq_true rfl), (Nat.le_of_ble_eq_true rfl)⟩ ⟨(Nat.le_of_ble_eq_true rfl), (Nat.le_of_ble_eq_true rfl)⟩ dL_orderOffset_4 kx (fun v9 ws9 h9 => ?_)
  obtain ⟨r, K9, hK9, rfl, hw9⟩ := h9
  subst ws9
  dsimp only [mPush]
  refine r_i2l hX dL_orderOffset_7 ?_
  refine r_putN hX kg_L_13 21 rfl rfl rfl rfl (Nat.le_of_ble_eq_true rfl) dL_orderOffset_8 ?_
  refine r_goto (tgt := 18) hX dL_orderOffset_11 (by decide) ?_
  refine r_iconst (v := 0) hX dL_orderOffset_18 (by decide) ?_
  exact r_iret hX hE dL_orderOffset_19 (Nat.le_of_ble_eq_true rfl) (Nat.le_of_ble_eq_true rfl) ⟨_, K9, _, _, hK9, rfl, rfl⟩
theorem dL_moment_0 : decode cL_moment 0 = .ok (.aload 4, 2) := by decide +kernel
theorem dL_moment_2 : decode cL_moment 2 = .ok (.aload_n 0, 1) := by decide +kernel
theorem dL_moment_3 : decode cL_moment 3 = .ok (.iload_n 1, 1) := by decide +kernel
theorem dL_moment_4 : decode cL_moment 4 = .ok (.iload_n 2, 1) := by decide +kernel
theorem dL_moment_5 : decode cL_moment 5 = .ok (.iload_n 3, 1) := by decide +kernel
theorem dL_moment_6 : decode cL_moment 6 = .ok (.invokevirtual 34, 3) := by decide +kernel
theorem dL_moment_9 : decode cL_moment 9 = .ok (.i2l, 1) := by decide +kernel
theorem dL_moment_10 : decode cL_moment 10 = .ok (.putfield 13, 3) := by decide +kernel
theorem dL_moment_13 : decode cL_moment 13 = .ok (.goto 7, 3) := by decide +kernel
theorem dL_moment_16 : decode cL_moment 16 = .ok (.astore 5, 2) := by decide +kernel
theorem dL_moment_18 : decode cL_moment 18 = .ok (.iconst 1, 1) := by decide +kernel
theorem dL_moment_19 : decode cL_moment 19 = .ok (.ireturn, 1) := by decide +kernel
theorem dL_moment_20 : decode cL_moment 20 = .ok (.iconst 0, 1) := by decide +kernel
theorem dL_moment_21 : decode cL_moment 21 = .ok (.ireturn, 1) := by decide +kernel
set_option maxHeartbeats 1000000 in
theorem c_L_moment (ad ae : Nat → Nat) (cs : ClassId × ClassId × ClassId) (K : mK) (J : mJ) (rest : va_W) (ao : Nat) (n0 : Int64) (s0 : Value) (p0 : Int32) (p1 : Int32) (p2 : Int32) : mCw (mTy cs) yL_moment cL_moment 6 (some .int) [(0, 13, 16, 19)] ⟨8, 1, 6, 126⟩ [.ref (ad 0), .int p0, .int p1, .int p2, .ref ao] (mRw ad ae cs K J ((ao, .inr (4, [.long n0, s0])) :: rest)) (fun v ws' => ∃ (r : Int32) (K' : mK) (n1 : Int64) (s1 : Value), K'.1 = K.1 ∧ v = some (.int r) ∧ ws' = mRw ad ae cs K' J ((ao, .inr (4, [.long n1, s1])) :: rest)) := by
  refine mCw.of (by decide +kernel) (Nat.le_of_ble_eq_true rfl) (fun X hX hg hE => ?_)
  replace hX : mOK X RL cL_moment 6 ⟨8, 1, 6, 126⟩ [(0, 13, 16, 19)] (mTy cs) := hX
  refine r_aload hX dL_moment_0 rfl ?_
  refine r_aload_n hX dL_moment_2 rfl rfl ?_
  refine r_iload_n hX dL_moment_3 rfl rfl ?_
  refine r_iload_n hX dL_moment_4 rfl rfl ?_
  refine r_iload_n hX dL_moment_5 rfl rfl ?_
  have kx : ∀ (E : String) (ws9 : va_W), mTh [xI] (mRw ad ae cs K J ((ao, .inr (4, [.long n0, s0])) :: rest)) E ws9 → mT X 6 [(0, some (.ref (ad 0))), (1, some (.int p0)), (2, some (.int p1)), (3, some (.int p2)), (4, some (.ref ao))] [.ref ao] ws9 (0 + 1) (0 + 6) E := by
    intro E ws9 z
    obtain ⟨zE, zw⟩ := z
    subst zw
    obtain rfl := List.mem_singleton.mp zE
    refine r_catch1 hX rfl (by decide) kl_L_19 kca_I (fun q => ?_)
    refine r_astore hX dL_moment_16 (by decide) rfl ?_
    refine r_iconst (v := 1) hX dL_moment_18 (by decide) ?_
    exact r_iret hX hE dL_moment_19 (Nat.le_of_ble_eq_true rfl) (Nat.le_of_ble_eq_true rfl) ⟨_, K, _, _, rfl, rfl, rfl⟩
  refine r_callV hX (c_X2_moment ad cs K _ _ _ _) kv_L_34 0 rfl rfl rfl rfl (Nat.le_of_ble_eq_true rfl) ⟨(Nat.le_of_ble_eq_true rfl), (Nat.le_of_ble_eq_true rfl)⟩ ⟨(Nat.le_of_ble_eq_true rfl), (Nat.le_of_ble_eq_true rfl)⟩ dL_moment_6 kx (fun v9 ws9 h9 => ?_)
  obtain ⟨r, K9, hK9, rfl, hw9⟩ := h9
  subst ws9
  dsimp only [mPush]
  refine r_i2l hX dL_moment_9 ?_
  refine r_putN hX kg_L_13 21 rfl rfl rfl rfl (Nat.le_of_ble_eq_true rfl) dL_moment_10 ?_
  refine r_goto (tgt := 20) hX dL_moment_13 (by decide) ?_
  refine r_iconst (v := 0) hX dL_moment_20 (by decide) ?_
  exact r_iret hX hE dL_moment_21 (Nat.le_of_ble_eq_true rfl) (Nat.le_of_ble_eq_true rfl) ⟨_, K9, _, _, hK9, rfl, rfl⟩
theorem dL_milli_0 : decode cL_milli 0 = .ok (.aload 4, 2) := by decide +kernel
theorem dL_milli_2 : decode cL_milli 2 = .ok (.aload_n 0, 1) := by decide +kernel
theorem dL_milli_3 : decode cL_milli 3 = .ok (.iload_n 1, 1) := by decide +kernel
theorem dL_milli_4 : decode cL_milli 4 = .ok (.iload_n 2, 1) := by decide +kernel
theorem dL_milli_5 : decode cL_milli 5 = .ok (.iload_n 3, 1) := by decide +kernel
theorem dL_milli_6 : decode cL_milli 6 = .ok (.invokevirtual 38, 3) := by decide +kernel
theorem dL_milli_9 : decode cL_milli 9 = .ok (.i2l, 1) := by decide +kernel
theorem dL_milli_10 : decode cL_milli 10 = .ok (.putfield 13, 3) := by decide +kernel
theorem dL_milli_13 : decode cL_milli 13 = .ok (.goto 7, 3) := by decide +kernel
theorem dL_milli_16 : decode cL_milli 16 = .ok (.astore 5, 2) := by decide +kernel
theorem dL_milli_18 : decode cL_milli 18 = .ok (.iconst 1, 1) := by decide +kernel
theorem dL_milli_19 : decode cL_milli 19 = .ok (.ireturn, 1) := by decide +kernel
theorem dL_milli_20 : decode cL_milli 20 = .ok (.iconst 0, 1) := by decide +kernel
theorem dL_milli_21 : decode cL_milli 21 = .ok (.ireturn, 1) := by decide +kernel
set_option maxHeartbeats 1000000 in
theorem c_L_milli (ad ae : Nat → Nat) (cs : ClassId × ClassId × ClassId) (K : mK) (J : mJ) (rest : va_W) (ao : Nat) (n0 : Int64) (s0 : Value) (p0 : Int32) (p1 : Int32) (p2 : Int32) : mCw (mTy cs) yL_milli cL_milli 6 (some .int) [(0, 13, 16, 19)] ⟨8, 1, 6, 126⟩ [.ref (ad 0), .int p0, .int p1, .int p2, .ref ao] (mRw ad ae cs K J ((ao, .inr (4, [.long n0, s0])) :: rest)) (fun v ws' => ∃ (r : Int32) (K' : mK) (n1 : Int64) (s1 : Value), K'.1 = K.1 ∧ v = some (.int r) ∧ ws' = mRw ad ae cs K' J ((ao, .inr (4, [.long n1, s1])) :: rest)) := by
  refine mCw.of (by decide +kernel) (Nat.le_of_ble_eq_true rfl) (fun X hX hg hE => ?_)
  replace hX : mOK X RL cL_milli 6 ⟨8, 1, 6, 126⟩ [(0, 13, 16, 19)] (mTy cs) := hX
  refine r_aload hX dL_milli_0 rfl ?_
  refine r_aload_n hX dL_milli_2 rfl rfl ?_
  refine r_iload_n hX dL_milli_3 rfl rfl ?_
  refine r_iload_n hX dL_milli_4 rfl rfl ?_
  refine r_iload_n hX dL_milli_5 rfl rfl ?_
  have kx : ∀ (E : String) (ws9 : va_W), mTh [xI] (mRw ad ae cs K J ((ao, .inr (4, [.long n0, s0])) :: rest)) E ws9 → mT X 6 [(0, some (.ref (ad 0))), (1, some (.int p0)), (2, some (.int p1)), (3, some (.int p2)), (4, some (.ref ao))] [.ref ao] ws9 (0 + 1) (0 + 6) E := by
    intro E ws9 z
    obtain ⟨zE, zw⟩ := z
    subst zw
    obtain rfl := List.mem_singleton.mp zE
    refine r_catch1 hX rfl (by decide) kl_L_19 kca_I (fun q => ?_)
    refine r_astore hX dL_milli_16 (by decide) rfl ?_
    refine r_iconst (v := 1) hX dL_milli_18 (by decide) ?_
    exact r_iret hX hE dL_milli_19 (Nat.le_of_ble_eq_true rfl) (Nat.le_of_ble_eq_true rfl) ⟨_, K, _, _, rfl, rfl, rfl⟩
  refine r_callV hX (c_X2_milli ad cs K _ _ _ _) kv_L_38 0 rfl rfl rfl rfl (Nat.le_of_ble_eq_true rfl) ⟨(Nat.le_of_ble_eq_true rfl), (Nat.le_of_ble_eq_true rfl)⟩ ⟨(Nat.le_of_ble_eq_true rfl), (Nat.le_of_ble_eq_true rfl)⟩ dL_milli_6 kx (fun v9 ws9 h9 => ?_)
  obtain ⟨r, K9, hK9, rfl, hw9⟩ := h9
  subst ws9
  dsimp only [mPush]
  refine r_i2l hX dL_milli_9 ?_
  refine r_putN hX kg_L_13 21 rfl rfl rfl rfl (Nat.le_of_ble_eq_true rfl) dL_milli_10 ?_
  refine r_goto (tgt := 20) hX dL_milli_13 (by decide) ?_
  refine r_iconst (v := 0) hX dL_milli_20 (by decide) ?_
  exact r_iret hX hE dL_milli_21 (Nat.le_of_ble_eq_true rfl) (Nat.le_of_ble_eq_true rfl) ⟨_, K9, _, _, hK9, rfl, rfl⟩
theorem dL_move_0 : decode cL_move 0 = .ok (.aload 5, 2) := by decide +kernel
theorem dL_move_2 : decode cL_move 2 = .ok (.aload_n 0, 1) := by decide +kernel
theorem dL_move_3 : decode cL_move 3 = .ok (.iload_n 1, 1) := by decide +kernel
theorem dL_move_4 : decode cL_move 4 = .ok (.iload_n 2, 1) := by decide +kernel
theorem dL_move_5 : decode cL_move 5 = .ok (.iload_n 3, 1) := by decide +kernel
theorem dL_move_6 : decode cL_move 6 = .ok (.iload 4, 2) := by decide +kernel
theorem dL_move_8 : decode cL_move 8 = .ok (.invokevirtual 41, 3) := by decide +kernel
theorem dL_move_11 : decode cL_move 11 = .ok (.i2l, 1) := by decide +kernel
theorem dL_move_12 : decode cL_move 12 = .ok (.putfield 13, 3) := by decide +kernel
theorem dL_move_15 : decode cL_move 15 = .ok (.goto 11, 3) := by decide +kernel
theorem dL_move_18 : decode cL_move 18 = .ok (.astore 6, 2) := by decide +kernel
theorem dL_move_20 : decode cL_move 20 = .ok (.iconst 1, 1) := by decide +kernel
theorem dL_move_21 : decode cL_move 21 = .ok (.ireturn, 1) := by decide +kernel
theorem dL_move_22 : decode cL_move 22 = .ok (.astore 6, 2) := by decide +kernel
theorem dL_move_24 : decode cL_move 24 = .ok (.iconst 2, 1) := by decide +kernel
theorem dL_move_25 : decode cL_move 25 = .ok (.ireturn, 1) := by decide +kernel
theorem dL_move_26 : decode cL_move 26 = .ok (.iconst 0, 1) := by decide +kernel
theorem dL_move_27 : decode cL_move 27 = .ok (.ireturn, 1) := by decide +kernel
set_option maxHeartbeats 1000000 in
theorem c_L_move (ad ae : Nat → Nat) (cs : ClassId × ClassId × ClassId) (K : mK) (J : mJ) (rest : va_W) (ao : Nat) (n0 : Int64) (s0 : Value) (p0 : Int32) (p1 : Int32) (p2 : Int32) (p3 : Int32) : mCw (mTy cs) yL_move cL_move 7 (some .int) [(0, 15, 18, 19), (0, 15, 22, 21)] ⟨8, 2, 12, 130⟩ [.ref (ad 0), .int p0, .int p1, .int p2, .int p3, .ref ao] (mRw ad ae cs K J ((ao, .inr (4, [.long n0, s0])) :: rest)) (fun v ws' => ∃ (r : Int32) (K' : mK) (n1 : Int64) (s1 : Value), K'.1 = K.1 ∧ v = some (.int r) ∧ ws' = mRw ad ae cs K' J ((ao, .inr (4, [.long n1, s1])) :: rest)) := by
  refine mCw.of (by decide +kernel) (Nat.le_of_ble_eq_true rfl) (fun X hX hg hE => ?_)
  replace hX : mOK X RL cL_move 7 ⟨8, 2, 12, 130⟩ [(0, 15, 18, 19), (0, 15, 22, 21)] (mTy cs) := hX
  refine r_aload hX dL_move_0 rfl ?_
  refine r_aload_n hX dL_move_2 rfl rfl ?_
  refine r_iload_n hX dL_move_3 rfl rfl ?_
  refine r_iload_n hX dL_move_4 rfl rfl ?_
  refine r_iload_n hX dL_move_5 rfl rfl ?_
  refine r_iload hX dL_move_6 rfl ?_
  have kx : ∀ (E : String) (ws9 : va_W), mTh [xI, xA] (mRw ad ae cs K J ((ao, .inr (4, [.long n0, s0])) :: rest)) E ws9 → mT X 8 [(0, some (.ref (ad 0))), (1, some (.int p0)), (2, some (.int p1)), (3, some (.int p2)), (4, some (.int p3)), (5, some (.ref ao))] [.ref ao] ws9 (0 + 2) (0 + 12) E := by
    intro E ws9 z
    obtain ⟨zE, zw⟩ := z
    subst zw
    rcases List.mem_cons.mp zE with rfl | zE
    · refine r_catch1 hX rfl (by decide) kl_L_19 kca_I (fun q => ?_)
      refine r_astore hX dL_move_18 (by decide) rfl ?_
      refine r_iconst (v := 1) hX dL_move_20 (by decide) ?_
      exact r_iret hX hE dL_move_21 (Nat.le_of_ble_eq_true rfl) (Nat.le_of_ble_eq_true rfl) ⟨_, K, _, _, rfl, rfl, rfl⟩
    · obtain rfl := List.mem_singleton.mp zE
      refine r_catch2 hX hg (by decide) kl_L_19 rfl (by decide) kl_L_21 (fun q => ?_)
      refine r_astore hX dL_move_22 (by decide) rfl ?_
      refine r_iconst (v := 2) hX dL_move_24 (by decide) ?_
      exact r_iret hX hE dL_move_25 (Nat.le_of_ble_eq_true rfl) (Nat.le_of_ble_eq_true rfl) ⟨_, K, _, _, rfl, rfl, rfl⟩
  refine r_callV hX (c_X2_move ad cs K _ _ _ _ _) kv_L_41 0 rfl rfl rfl rfl (Nat.le_of_ble_eq_true rfl) ⟨(Nat.le_of_ble_eq_true rfl), (Nat.le_of_ble_eq_true rfl)⟩ ⟨(Nat.le_of_ble_eq_true rfl), (Nat.le_of_ble_eq_true rfl)⟩ dL_move_8 kx (fun v9 ws9 h9 => ?_)
  obtain ⟨r, K9, hK9, rfl, hw9⟩ := h9
  subst ws9
  dsimp only [mPush]
  refine r_i2l hX dL_move_11 ?_
  refine r_putN hX kg_L_13 21 rfl rfl rfl rfl (Nat.le_of_ble_eq_true rfl) dL_move_12 ?_
  refine r_goto (tgt := 26) hX dL_move_15 (by decide) ?_
  refine r_iconst (v := 0) hX dL_move_26 (by decide) ?_
  exact r_iret hX hE dL_move_27 (Nat.le_of_ble_eq_true rfl) (Nat.le_of_ble_eq_true rfl) ⟨_, K9, _, _, hK9, rfl, rfl⟩
theorem dL_momentOf_0 : decode cL_momentOf 0 = .ok (.aload_n 3, 1) := by decide +kernel
theorem dL_momentOf_1 : decode cL_momentOf 1 = .ok (.aload_n 0, 1) := by decide +kernel
theorem dL_momentOf_2 : decode cL_momentOf 2 = .ok (.iload_n 1, 1) := by decide +kernel
theorem dL_momentOf_3 : decode cL_momentOf 3 = .ok (.iload_n 2, 1) := by decide +kernel
theorem dL_momentOf_4 : decode cL_momentOf 4 = .ok (.invokevirtual 45, 3) := by decide +kernel
theorem dL_momentOf_7 : decode cL_momentOf 7 = .ok (.i2l, 1) := by decide +kernel
theorem dL_momentOf_8 : decode cL_momentOf 8 = .ok (.putfield 13, 3) := by decide +kernel
theorem dL_momentOf_11 : decode cL_momentOf 11 = .ok (.goto 7, 3) := by decide +kernel
theorem dL_momentOf_14 : decode cL_momentOf 14 = .ok (.astore 4, 2) := by decide +kernel
theorem dL_momentOf_16 : decode cL_momentOf 16 = .ok (.iconst 1, 1) := by decide +kernel
theorem dL_momentOf_17 : decode cL_momentOf 17 = .ok (.ireturn, 1) := by decide +kernel
theorem dL_momentOf_18 : decode cL_momentOf 18 = .ok (.iconst 0, 1) := by decide +kernel
theorem dL_momentOf_19 : decode cL_momentOf 19 = .ok (.ireturn, 1) := by decide +kernel
set_option maxHeartbeats 1000000 in
theorem c_L_momentOf (ad ae : Nat → Nat) (cs : ClassId × ClassId × ClassId) (K : mK) (J : mJ) (rest : va_W) (ao : Nat) (n0 : Int64) (s0 : Value) (p0 : Int32) (p1 : Int32) : mCw (mTy cs) yL_momentOf cL_momentOf 5 (some .int) [(0, 11, 14, 19)] ⟨8, 2, 12, 125⟩ [.ref (ad 0), .int p0, .int p1, .ref ao] (mRw ad ae cs K J ((ao, .inr (4, [.long n0, s0])) :: rest)) (fun v ws' => ∃ (r : Int32) (K' : mK) (n1 : Int64) (s1 : Value), K'.1 = K.1 ∧ v = some (.int r) ∧ ws' = mRw ad ae cs K' J ((ao, .inr (4, [.long n1, s1])) :: rest)) := by
  refine mCw.of (by decide +kernel) (Nat.le_of_ble_eq_true rfl) (fun X hX hg hE => ?_)
  replace hX : mOK X RL cL_momentOf 5 ⟨8, 2, 12, 125⟩ [(0, 11, 14, 19)] (mTy cs) := hX
  refine r_aload_n hX dL_momentOf_0 rfl rfl ?_
  refine r_aload_n hX dL_momentOf_1 rfl rfl ?_
  refine r_iload_n hX dL_momentOf_2 rfl rfl ?_
  refine r_iload_n hX dL_momentOf_3 rfl rfl ?_
  have kx : ∀ (E : String) (ws9 : va_W), mTh [xI] (mRw ad ae cs K J ((ao, .inr (4, [.long n0, s0])) :: rest)) E ws9 → mT X 4 [(0, some (.ref (ad 0))), (1, some (.int p0)), (2, some (.int p1)), (3, some (.ref ao))] [.ref ao] ws9 (0 + 2) (0 + 12) E := by
    intro E ws9 z
    obtain ⟨zE, zw⟩ := z
    subst zw
    obtain rfl := List.mem_singleton.mp zE
    refine r_catch1 hX rfl (by decide) kl_L_19 kca_I (fun q => ?_)
    refine r_astore hX dL_momentOf_14 (by decide) rfl ?_
    refine r_iconst (v := 1) hX dL_momentOf_16 (by decide) ?_
    exact r_iret hX hE dL_momentOf_17 (Nat.le_of_ble_eq_true rfl) (Nat.le_of_ble_eq_true rfl) ⟨_, K, _, _, rfl, rfl, rfl⟩
  refine r_callV hX (c_X2_momentOf ad cs K _ _ _) kv_L_45 0 rfl rfl rfl rfl (Nat.le_of_ble_eq_true rfl) ⟨(Nat.le_of_ble_eq_true rfl), (Nat.le_of_ble_eq_true rfl)⟩ ⟨(Nat.le_of_ble_eq_true rfl), (Nat.le_of_ble_eq_true rfl)⟩ dL_momentOf_4 kx (fun v9 ws9 h9 => ?_)
  obtain ⟨r, K9, hK9, rfl, hw9⟩ := h9
  subst ws9
  dsimp only [mPush]
  refine r_i2l hX dL_momentOf_7 ?_
  refine r_putN hX kg_L_13 21 rfl rfl rfl rfl (Nat.le_of_ble_eq_true rfl) dL_momentOf_8 ?_
  refine r_goto (tgt := 18) hX dL_momentOf_11 (by decide) ?_
  refine r_iconst (v := 0) hX dL_momentOf_18 (by decide) ?_
  exact r_iret hX hE dL_momentOf_19 (Nat.le_of_ble_eq_true rfl) (Nat.le_of_ble_eq_true rfl) ⟨_, K9, _, _, hK9, rfl, rfl⟩
theorem dL_ofMoment_0 : decode cL_ofMoment 0 = .ok (.aload_n 3, 1) := by decide +kernel
theorem dL_ofMoment_1 : decode cL_ofMoment 1 = .ok (.aload_n 0, 1) := by decide +kernel
theorem dL_ofMoment_2 : decode cL_ofMoment 2 = .ok (.iload_n 1, 1) := by decide +kernel
theorem dL_ofMoment_3 : decode cL_ofMoment 3 = .ok (.iload_n 2, 1) := by decide +kernel
theorem dL_ofMoment_4 : decode cL_ofMoment 4 = .ok (.invokevirtual 48, 3) := by decide +kernel
theorem dL_ofMoment_7 : decode cL_ofMoment 7 = .ok (.i2l, 1) := by decide +kernel
theorem dL_ofMoment_8 : decode cL_ofMoment 8 = .ok (.putfield 13, 3) := by decide +kernel
theorem dL_ofMoment_11 : decode cL_ofMoment 11 = .ok (.goto 7, 3) := by decide +kernel
theorem dL_ofMoment_14 : decode cL_ofMoment 14 = .ok (.astore 4, 2) := by decide +kernel
theorem dL_ofMoment_16 : decode cL_ofMoment 16 = .ok (.iconst 1, 1) := by decide +kernel
theorem dL_ofMoment_17 : decode cL_ofMoment 17 = .ok (.ireturn, 1) := by decide +kernel
theorem dL_ofMoment_18 : decode cL_ofMoment 18 = .ok (.iconst 0, 1) := by decide +kernel
theorem dL_ofMoment_19 : decode cL_ofMoment 19 = .ok (.ireturn, 1) := by decide +kernel
set_option maxHeartbeats 1000000 in
theorem c_L_ofMoment (ad ae : Nat → Nat) (cs : ClassId × ClassId × ClassId) (K : mK) (J : mJ) (rest : va_W) (ao : Nat) (n0 : Int64) (s0 : Value) (p0 : Int32) (p1 : Int32) : mCw (mTy cs) yL_ofMoment cL_ofMoment 5 (some .int) [(0, 11, 14, 19)] ⟨8, 1, 6, 125⟩ [.ref (ad 0), .int p0, .int p1, .ref ao] (mRw ad ae cs K J ((ao, .inr (4, [.long n0, s0])) :: rest)) (fun v ws' => ∃ (r : Int32) (K' : mK) (n1 : Int64) (s1 : Value), K'.1 = K.1 ∧ v = some (.int r) ∧ ws' = mRw ad ae cs K' J ((ao, .inr (4, [.long n1, s1])) :: rest)) := by
  refine mCw.of (by decide +kernel) (Nat.le_of_ble_eq_true rfl) (fun X hX hg hE => ?_)
  replace hX : mOK X RL cL_ofMoment 5 ⟨8, 1, 6, 125⟩ [(0, 11, 14, 19)] (mTy cs) := hX
  refine r_aload_n hX dL_ofMoment_0 rfl rfl ?_
  refine r_aload_n hX dL_ofMoment_1 rfl rfl ?_
  refine r_iload_n hX dL_ofMoment_2 rfl rfl ?_
  refine r_iload_n hX dL_ofMoment_3 rfl rfl ?_
  have kx : ∀ (E : String) (ws9 : va_W), mTh [xI] (mRw ad ae cs K J ((ao, .inr (4, [.long n0, s0])) :: rest)) E ws9 → mT X 4 [(0, some (.ref (ad 0))), (1, some (.int p0)), (2, some (.int p1)), (3, some (.ref ao))] [.ref ao] ws9 (0 + 1) (0 + 6) E := by
    intro E ws9 z
    obtain ⟨zE, zw⟩ := z
    subst zw
    obtain rfl := List.mem_singleton.mp zE
    refine r_catch1 hX rfl (by decide) kl_L_19 kca_I (fun q => ?_)
    refine r_astore hX dL_ofMoment_14 (by decide) rfl ?_
    refine r_iconst (v := 1) hX dL_ofMoment_16 (by decide) ?_
    exact r_iret hX hE dL_ofMoment_17 (Nat.le_of_ble_eq_true rfl) (Nat.le_of_ble_eq_true rfl) ⟨_, K, _, _, rfl, rfl, rfl⟩
  refine r_callV hX (c_X2_ofMoment ad cs K _ _ _) kv_L_48 0 rfl rfl rfl rfl (Nat.le_of_ble_eq_true rfl) ⟨(Nat.le_of_ble_eq_true rfl), (Nat.le_of_ble_eq_true rfl)⟩ ⟨(Nat.le_of_ble_eq_true rfl), (Nat.le_of_ble_eq_true rfl)⟩ dL_ofMoment_4 kx (fun v9 ws9 h9 => ?_)
  obtain ⟨r, K9, hK9, rfl, hw9⟩ := h9
  subst ws9
  dsimp only [mPush]
  refine r_i2l hX dL_ofMoment_7 ?_
  refine r_putN hX kg_L_13 21 rfl rfl rfl rfl (Nat.le_of_ble_eq_true rfl) dL_ofMoment_8 ?_
  refine r_goto (tgt := 18) hX dL_ofMoment_11 (by decide) ?_
  refine r_iconst (v := 0) hX dL_ofMoment_18 (by decide) ?_
  exact r_iret hX hE dL_ofMoment_19 (Nat.le_of_ble_eq_true rfl) (Nat.le_of_ble_eq_true rfl) ⟨_, K9, _, _, hK9, rfl, rfl⟩
theorem dL_millis_0 : decode cL_millis 0 = .ok (.aload_n 2, 1) := by decide +kernel
theorem dL_millis_1 : decode cL_millis 1 = .ok (.aload_n 0, 1) := by decide +kernel
theorem dL_millis_2 : decode cL_millis 2 = .ok (.iload_n 1, 1) := by decide +kernel
theorem dL_millis_3 : decode cL_millis 3 = .ok (.invokevirtual 52, 3) := by decide +kernel
theorem dL_millis_6 : decode cL_millis 6 = .ok (.putfield 56, 3) := by decide +kernel
theorem dL_millis_9 : decode cL_millis 9 = .ok (.goto 6, 3) := by decide +kernel
theorem dL_millis_12 : decode cL_millis 12 = .ok (.astore_n 3, 1) := by decide +kernel
theorem dL_millis_13 : decode cL_millis 13 = .ok (.iconst 1, 1) := by decide +kernel
theorem dL_millis_14 : decode cL_millis 14 = .ok (.ireturn, 1) := by decide +kernel
theorem dL_millis_15 : decode cL_millis 15 = .ok (.iconst 0, 1) := by decide +kernel
theorem dL_millis_16 : decode cL_millis 16 = .ok (.ireturn, 1) := by decide +kernel
set_option maxHeartbeats 1000000 in
theorem c_L_millis (ad ae : Nat → Nat) (cs : ClassId × ClassId × ClassId) (K : mK) (J : mJ) (rest : va_W) (ao : Nat) (n0 : Int64) (s0 : Value) (p0 : Int32) : mCw (mTy cs) yL_millis cL_millis 4 (some .int) [(0, 9, 12, 19)] ⟨8, 31, 1506, 331⟩ [.ref (ad 0), .int p0, .ref ao] (mRw ad ae cs K J ((ao, .inr (4, [.long n0, s0])) :: rest)) (fun v ws' => ∃ (r : Int32) (K' : mK) (n1 : Int64) (s1 : Value), K'.1 = K.1 ∧ v = some (.int r) ∧ ws' = mRw ad ae cs K' J ((ao, .inr (4, [.long n1, s1])) :: rest)) := by
  refine mCw.of (by decide +kernel) (Nat.le_of_ble_eq_true rfl) (fun X hX hg hE => ?_)
  replace hX : mOK X RL cL_millis 4 ⟨8, 31, 1506, 331⟩ [(0, 9, 12, 19)] (mTy cs) := hX
  refine r_aload_n hX dL_millis_0 rfl rfl ?_
  refine r_aload_n hX dL_millis_1 rfl rfl ?_
  refine r_iload_n hX dL_millis_2 rfl rfl ?_
  have kx : ∀ (E : String) (ws9 : va_W), mTh [xI] (mRw ad ae cs K J ((ao, .inr (4, [.long n0, s0])) :: rest)) E ws9 → mT X 3 [(0, some (.ref (ad 0))), (1, some (.int p0)), (2, some (.ref ao))] [.ref ao] ws9 (0 + 31) (0 + 1506) E := by
    intro E ws9 z
    obtain ⟨zE, zw⟩ := z
    subst zw
    obtain rfl := List.mem_singleton.mp zE
    refine r_catch1 hX rfl (by decide) kl_L_19 kca_I (fun q => ?_)
    refine r_astore_n hX dL_millis_12 rfl (by decide) rfl ?_
    refine r_iconst (v := 1) hX dL_millis_13 (by decide) ?_
    exact r_iret hX hE dL_millis_14 (Nat.le_of_ble_eq_true rfl) (Nat.le_of_ble_eq_true rfl) ⟨_, K, _, _, rfl, rfl, rfl⟩
  refine r_callV hX (c_X2_millis ad cs K _ _) kv_L_52 0 rfl rfl rfl rfl (Nat.le_of_ble_eq_true rfl) ⟨(Nat.le_of_ble_eq_true rfl), (Nat.le_of_ble_eq_true rfl)⟩ ⟨(Nat.le_of_ble_eq_true rfl), (Nat.le_of_ble_eq_true rfl)⟩ dL_millis_3 kx (fun v9 ws9 h9 => ?_)
  obtain ⟨⟨s, rfl⟩, hw9⟩ := h9
  subst ws9
  dsimp only [mPush]
  refine r_putN hX kg_L_56 21 rfl rfl rfl rfl (Nat.le_of_ble_eq_true rfl) dL_millis_6 ?_
  refine r_goto (tgt := 15) hX dL_millis_9 (by decide) ?_
  refine r_iconst (v := 0) hX dL_millis_15 (by decide) ?_
  exact r_iret hX hE dL_millis_16 (Nat.le_of_ble_eq_true rfl) (Nat.le_of_ble_eq_true rfl) ⟨_, K, _, _, rfl, rfl, rfl⟩
theorem dL_orderMoment_0 : decode cL_orderMoment 0 = .ok (.aload_n 3, 1) := by decide +kernel
theorem dL_orderMoment_1 : decode cL_orderMoment 1 = .ok (.aload_n 0, 1) := by decide +kernel
theorem dL_orderMoment_2 : decode cL_orderMoment 2 = .ok (.iload_n 1, 1) := by decide +kernel
theorem dL_orderMoment_3 : decode cL_orderMoment 3 = .ok (.iload_n 2, 1) := by decide +kernel
theorem dL_orderMoment_4 : decode cL_orderMoment 4 = .ok (.invokevirtual 60, 3) := by decide +kernel
theorem dL_orderMoment_7 : decode cL_orderMoment 7 = .ok (.i2l, 1) := by decide +kernel
theorem dL_orderMoment_8 : decode cL_orderMoment 8 = .ok (.putfield 13, 3) := by decide +kernel
theorem dL_orderMoment_11 : decode cL_orderMoment 11 = .ok (.goto 7, 3) := by decide +kernel
theorem dL_orderMoment_14 : decode cL_orderMoment 14 = .ok (.astore 4, 2) := by decide +kernel
theorem dL_orderMoment_16 : decode cL_orderMoment 16 = .ok (.iconst 1, 1) := by decide +kernel
theorem dL_orderMoment_17 : decode cL_orderMoment 17 = .ok (.ireturn, 1) := by decide +kernel
theorem dL_orderMoment_18 : decode cL_orderMoment 18 = .ok (.iconst 0, 1) := by decide +kernel
theorem dL_orderMoment_19 : decode cL_orderMoment 19 = .ok (.ireturn, 1) := by decide +kernel
set_option maxHeartbeats 1000000 in
theorem c_L_orderMoment (ad ae : Nat → Nat) (cs : ClassId × ClassId × ClassId) (K : mK) (J : mJ) (rest : va_W) (ao : Nat) (n0 : Int64) (s0 : Value) (p0 : Int32) (p1 : Int32) : mCw (mTy cs) yL_orderMoment cL_orderMoment 5 (some .int) [(0, 11, 14, 19)] ⟨8, 2, 12, 125⟩ [.ref (ad 0), .int p0, .int p1, .ref ao] (mRw ad ae cs K J ((ao, .inr (4, [.long n0, s0])) :: rest)) (fun v ws' => ∃ (r : Int32) (K' : mK) (n1 : Int64) (s1 : Value), K'.1 = K.1 ∧ v = some (.int r) ∧ ws' = mRw ad ae cs K' J ((ao, .inr (4, [.long n1, s1])) :: rest)) := by
  refine mCw.of (by decide +kernel) (Nat.le_of_ble_eq_true rfl) (fun X hX hg hE => ?_)
  replace hX : mOK X RL cL_orderMoment 5 ⟨8, 2, 12, 125⟩ [(0, 11, 14, 19)] (mTy cs) := hX
  refine r_aload_n hX dL_orderMoment_0 rfl rfl ?_
  refine r_aload_n hX dL_orderMoment_1 rfl rfl ?_
  refine r_iload_n hX dL_orderMoment_2 rfl rfl ?_
  refine r_iload_n hX dL_orderMoment_3 rfl rfl ?_
  have kx : ∀ (E : String) (ws9 : va_W), mTh [xI] (mRw ad ae cs K J ((ao, .inr (4, [.long n0, s0])) :: rest)) E ws9 → mT X 4 [(0, some (.ref (ad 0))), (1, some (.int p0)), (2, some (.int p1)), (3, some (.ref ao))] [.ref ao] ws9 (0 + 2) (0 + 12) E := by
    intro E ws9 z
    obtain ⟨zE, zw⟩ := z
    subst zw
    obtain rfl := List.mem_singleton.mp zE
    refine r_catch1 hX rfl (by decide) kl_L_19 kca_I (fun q => ?_)
    refine r_astore hX dL_orderMoment_14 (by decide) rfl ?_
    refine r_iconst (v := 1) hX dL_orderMoment_16 (by decide) ?_
    exact r_iret hX hE dL_orderMoment_17 (Nat.le_of_ble_eq_true rfl) (Nat.le_of_ble_eq_true rfl) ⟨_, K, _, _, rfl, rfl, rfl⟩
  refine r_callV hX (c_X2_orderMoment ad cs K _ _ _) kv_L_60 0 rfl rfl rfl rfl (Nat.le_of_ble_eq_true rfl) ⟨(Nat.le_of_ble_eq_true rfl), (Nat.le_of_ble_eq_true rfl)⟩ ⟨(Nat.le_of_ble_eq_true rfl), (Nat.le_of_ble_eq_true rfl)⟩ dL_orderMoment_4 kx (fun v9 ws9 h9 => ?_)
  obtain ⟨r, rfl, hw9⟩ := h9
  subst ws9
  dsimp only [mPush]
  refine r_i2l hX dL_orderMoment_7 ?_
  refine r_putN hX kg_L_13 21 rfl rfl rfl rfl (Nat.le_of_ble_eq_true rfl) dL_orderMoment_8 ?_
  refine r_goto (tgt := 18) hX dL_orderMoment_11 (by decide) ?_
  refine r_iconst (v := 0) hX dL_orderMoment_18 (by decide) ?_
  exact r_iret hX hE dL_orderMoment_19 (Nat.le_of_ble_eq_true rfl) (Nat.le_of_ble_eq_true rfl) ⟨_, K, _, _, rfl, rfl, rfl⟩
theorem dL_isMoment_0 : decode cL_isMoment 0 = .ok (.aload 4, 2) := by decide +kernel
theorem dL_isMoment_2 : decode cL_isMoment 2 = .ok (.aload_n 0, 1) := by decide +kernel
theorem dL_isMoment_3 : decode cL_isMoment 3 = .ok (.iload_n 1, 1) := by decide +kernel
theorem dL_isMoment_4 : decode cL_isMoment 4 = .ok (.iload_n 2, 1) := by decide +kernel
theorem dL_isMoment_5 : decode cL_isMoment 5 = .ok (.iload_n 3, 1) := by decide +kernel
theorem dL_isMoment_6 : decode cL_isMoment 6 = .ok (.invokevirtual 63, 3) := by decide +kernel
theorem dL_isMoment_9 : decode cL_isMoment 9 = .ok (.ifCond .eq 7, 3) := by decide +kernel
theorem dL_isMoment_12 : decode cL_isMoment 12 = .ok (.lconst 1, 1) := by decide +kernel
theorem dL_isMoment_13 : decode cL_isMoment 13 = .ok (.goto 4, 3) := by decide +kernel
theorem dL_isMoment_16 : decode cL_isMoment 16 = .ok (.lconst 0, 1) := by decide +kernel
theorem dL_isMoment_17 : decode cL_isMoment 17 = .ok (.putfield 13, 3) := by decide +kernel
theorem dL_isMoment_20 : decode cL_isMoment 20 = .ok (.goto 11, 3) := by decide +kernel
theorem dL_isMoment_23 : decode cL_isMoment 23 = .ok (.astore 5, 2) := by decide +kernel
theorem dL_isMoment_25 : decode cL_isMoment 25 = .ok (.iconst 1, 1) := by decide +kernel
theorem dL_isMoment_26 : decode cL_isMoment 26 = .ok (.ireturn, 1) := by decide +kernel
theorem dL_isMoment_27 : decode cL_isMoment 27 = .ok (.astore 5, 2) := by decide +kernel
theorem dL_isMoment_29 : decode cL_isMoment 29 = .ok (.iconst 2, 1) := by decide +kernel
theorem dL_isMoment_30 : decode cL_isMoment 30 = .ok (.ireturn, 1) := by decide +kernel
theorem dL_isMoment_31 : decode cL_isMoment 31 = .ok (.iconst 0, 1) := by decide +kernel
theorem dL_isMoment_32 : decode cL_isMoment 32 = .ok (.ireturn, 1) := by decide +kernel
set_option maxHeartbeats 1000000 in
theorem c_L_isMoment (ad ae : Nat → Nat) (cs : ClassId × ClassId × ClassId) (K : mK) (J : mJ) (rest : va_W) (ao : Nat) (n0 : Int64) (s0 : Value) (p0 : Int32) (p1 : Int32) (p2 : Int32) : mCw (mTy cs) yL_isMoment cL_isMoment 6 (some .int) [(0, 20, 23, 19), (0, 20, 27, 21)] ⟨9, 3, 18, 149⟩ [.ref (ad 0), .int p0, .int p1, .int p2, .ref ao] (mRw ad ae cs K J ((ao, .inr (4, [.long n0, s0])) :: rest)) (fun v ws' => ∃ (r : Int32) (K' : mK) (n1 : Int64) (s1 : Value), K'.1 = K.1 ∧ v = some (.int r) ∧ ws' = mRw ad ae cs K' J ((ao, .inr (4, [.long n1, s1])) :: rest)) := by
  refine mCw.of (by decide +kernel) (Nat.le_of_ble_eq_true rfl) (fun X hX hg hE => ?_)
  replace hX : mOK X RL cL_isMoment 6 ⟨9, 3, 18, 149⟩ [(0, 20, 23, 19), (0, 20, 27, 21)] (mTy cs) := hX
  refine r_aload hX dL_isMoment_0 rfl ?_
  refine r_aload_n hX dL_isMoment_2 rfl rfl ?_
  refine r_iload_n hX dL_isMoment_3 rfl rfl ?_
  refine r_iload_n hX dL_isMoment_4 rfl rfl ?_
  refine r_iload_n hX dL_isMoment_5 rfl rfl ?_
  have kx : ∀ (E : String) (ws9 : va_W), mTh [xI, xA] (mRw ad ae cs K J ((ao, .inr (4, [.long n0, s0])) :: rest)) E ws9 → mT X 6 [(0, some (.ref (ad 0))), (1, some (.int p0)), (2, some (.int p1)), (3, some (.int p2)), (4, some (.ref ao))] [.ref ao] ws9 (0 + 3) (0 + 18) E := by
    intro E ws9 z
    obtain ⟨zE, zw⟩ := z
    subst zw
    rcases List.mem_cons.mp zE with rfl | zE
    · refine r_catch1 hX rfl (by decide) kl_L_19 kca_I (fun q => ?_)
      refine r_astore hX dL_isMoment_23 (by decide) rfl ?_
      refine r_iconst (v := 1) hX dL_isMoment_25 (by decide) ?_
      exact r_iret hX hE dL_isMoment_26 (Nat.le_of_ble_eq_true rfl) (Nat.le_of_ble_eq_true rfl) ⟨_, K, _, _, rfl, rfl, rfl⟩
    · obtain rfl := List.mem_singleton.mp zE
      refine r_catch2 hX hg (by decide) kl_L_19 rfl (by decide) kl_L_21 (fun q => ?_)
      refine r_astore hX dL_isMoment_27 (by decide) rfl ?_
      refine r_iconst (v := 2) hX dL_isMoment_29 (by decide) ?_
      exact r_iret hX hE dL_isMoment_30 (Nat.le_of_ble_eq_true rfl) (Nat.le_of_ble_eq_true rfl) ⟨_, K, _, _, rfl, rfl, rfl⟩
  refine r_callV hX (c_X2_isMoment ad cs K _ _ _ _) kv_L_63 0 rfl rfl rfl rfl (Nat.le_of_ble_eq_true rfl) ⟨(Nat.le_of_ble_eq_true rfl), (Nat.le_of_ble_eq_true rfl)⟩ ⟨(Nat.le_of_ble_eq_true rfl), (Nat.le_of_ble_eq_true rfl)⟩ dL_isMoment_6 kx (fun v9 ws9 h9 => ?_)
  obtain ⟨r, K9, br, hK9, rfl, hw9⟩ := h9
  subst ws9
  dsimp only [mPush]
  refine r_if_eq (tgt := 16) hX dL_isMoment_9 (by decide) (fun _ => ?_) (fun _ => ?_)
  · refine r_lconst (v := 0) hX dL_isMoment_16 (by decide) ?_
    refine r_putN hX kg_L_13 21 rfl rfl rfl rfl (Nat.le_of_ble_eq_true rfl) dL_isMoment_17 ?_
    refine r_goto (tgt := 31) hX dL_isMoment_20 (by decide) ?_
    refine r_iconst (v := 0) hX dL_isMoment_31 (by decide) ?_
    exact r_iret hX hE dL_isMoment_32 (Nat.le_of_ble_eq_true rfl) (Nat.le_of_ble_eq_true rfl) ⟨_, K9, _, _, hK9, rfl, rfl⟩
  · refine r_lconst (v := 1) hX dL_isMoment_12 (by decide) ?_
    refine r_goto (tgt := 17) hX dL_isMoment_13 (by decide) ?_
    refine r_putN hX kg_L_13 21 rfl rfl rfl rfl (Nat.le_of_ble_eq_true rfl) dL_isMoment_17 ?_
    refine r_goto (tgt := 31) hX dL_isMoment_20 (by decide) ?_
    refine r_iconst (v := 0) hX dL_isMoment_31 (by decide) ?_
    exact r_iret hX hE dL_isMoment_32 (Nat.le_of_ble_eq_true rfl) (Nat.le_of_ble_eq_true rfl) ⟨_, K9, _, _, hK9, rfl, rfl⟩
theorem dL_copyMoment_0 : decode cL_copyMoment 0 = .ok (.aload_n 3, 1) := by decide +kernel
theorem dL_copyMoment_1 : decode cL_copyMoment 1 = .ok (.aload_n 0, 1) := by decide +kernel
theorem dL_copyMoment_2 : decode cL_copyMoment 2 = .ok (.iload_n 1, 1) := by decide +kernel
theorem dL_copyMoment_3 : decode cL_copyMoment 3 = .ok (.iload_n 2, 1) := by decide +kernel
theorem dL_copyMoment_4 : decode cL_copyMoment 4 = .ok (.invokevirtual 67, 3) := by decide +kernel
theorem dL_copyMoment_7 : decode cL_copyMoment 7 = .ok (.i2l, 1) := by decide +kernel
theorem dL_copyMoment_8 : decode cL_copyMoment 8 = .ok (.putfield 13, 3) := by decide +kernel
theorem dL_copyMoment_11 : decode cL_copyMoment 11 = .ok (.goto 7, 3) := by decide +kernel
theorem dL_copyMoment_14 : decode cL_copyMoment 14 = .ok (.astore 4, 2) := by decide +kernel
theorem dL_copyMoment_16 : decode cL_copyMoment 16 = .ok (.iconst 1, 1) := by decide +kernel
theorem dL_copyMoment_17 : decode cL_copyMoment 17 = .ok (.ireturn, 1) := by decide +kernel
theorem dL_copyMoment_18 : decode cL_copyMoment 18 = .ok (.iconst 0, 1) := by decide +kernel
theorem dL_copyMoment_19 : decode cL_copyMoment 19 = .ok (.ireturn, 1) := by decide +kernel
set_option maxHeartbeats 1000000 in
theorem c_L_copyMoment (ad ae : Nat → Nat) (cs : ClassId × ClassId × ClassId) (K : mK) (J : mJ) (rest : va_W) (ao : Nat) (n0 : Int64) (s0 : Value) (p0 : Int32) (p1 : Int32) : mCw (mTy cs) yL_copyMoment cL_copyMoment 5 (some .int) [(0, 11, 14, 19)] ⟨8, 2, 12, 125⟩ [.ref (ad 0), .int p0, .int p1, .ref ao] (mRw ad ae cs K J ((ao, .inr (4, [.long n0, s0])) :: rest)) (fun v ws' => ∃ (r : Int32) (K' : mK) (n1 : Int64) (s1 : Value), K'.1 = K.1 ∧ v = some (.int r) ∧ ws' = mRw ad ae cs K' J ((ao, .inr (4, [.long n1, s1])) :: rest)) := by
  refine mCw.of (by decide +kernel) (Nat.le_of_ble_eq_true rfl) (fun X hX hg hE => ?_)
  replace hX : mOK X RL cL_copyMoment 5 ⟨8, 2, 12, 125⟩ [(0, 11, 14, 19)] (mTy cs) := hX
  refine r_aload_n hX dL_copyMoment_0 rfl rfl ?_
  refine r_aload_n hX dL_copyMoment_1 rfl rfl ?_
  refine r_iload_n hX dL_copyMoment_2 rfl rfl ?_
  refine r_iload_n hX dL_copyMoment_3 rfl rfl ?_
  have kx : ∀ (E : String) (ws9 : va_W), mTh [xI] (mRw ad ae cs K J ((ao, .inr (4, [.long n0, s0])) :: rest)) E ws9 → mT X 4 [(0, some (.ref (ad 0))), (1, some (.int p0)), (2, some (.int p1)), (3, some (.ref ao))] [.ref ao] ws9 (0 + 2) (0 + 12) E := by
    intro E ws9 z
    obtain ⟨zE, zw⟩ := z
    subst zw
    obtain rfl := List.mem_singleton.mp zE
    refine r_catch1 hX rfl (by decide) kl_L_19 kca_I (fun q => ?_)
    refine r_astore hX dL_copyMoment_14 (by decide) rfl ?_
    refine r_iconst (v := 1) hX dL_copyMoment_16 (by decide) ?_
    exact r_iret hX hE dL_copyMoment_17 (Nat.le_of_ble_eq_true rfl) (Nat.le_of_ble_eq_true rfl) ⟨_, K, _, _, rfl, rfl, rfl⟩
  refine r_callV hX (c_X2_copyMoment ad cs K _ _ _) kv_L_67 0 rfl rfl rfl rfl (Nat.le_of_ble_eq_true rfl) ⟨(Nat.le_of_ble_eq_true rfl), (Nat.le_of_ble_eq_true rfl)⟩ ⟨(Nat.le_of_ble_eq_true rfl), (Nat.le_of_ble_eq_true rfl)⟩ dL_copyMoment_4 kx (fun v9 ws9 h9 => ?_)
  obtain ⟨r, K9, hK9, rfl, hw9⟩ := h9
  subst ws9
  dsimp only [mPush]
  refine r_i2l hX dL_copyMoment_7 ?_
  refine r_putN hX kg_L_13 21 rfl rfl rfl rfl (Nat.le_of_ble_eq_true rfl) dL_copyMoment_8 ?_
  refine r_goto (tgt := 18) hX dL_copyMoment_11 (by decide) ?_
  refine r_iconst (v := 0) hX dL_copyMoment_18 (by decide) ?_
  exact r_iret hX hE dL_copyMoment_19 (Nat.le_of_ble_eq_true rfl) (Nat.le_of_ble_eq_true rfl) ⟨_, K9, _, _, hK9, rfl, rfl⟩
theorem dL_date_0 : decode cL_date 0 = .ok (.aload 7, 2) := by decide +kernel
theorem dL_date_2 : decode cL_date 2 = .ok (.aload_n 0, 1) := by decide +kernel
theorem dL_date_3 : decode cL_date 3 = .ok (.iload_n 1, 1) := by decide +kernel
theorem dL_date_4 : decode cL_date 4 = .ok (.iload_n 2, 1) := by decide +kernel
theorem dL_date_5 : decode cL_date 5 = .ok (.iload_n 3, 1) := by decide +kernel
theorem dL_date_6 : decode cL_date 6 = .ok (.iload 4, 2) := by decide +kernel
theorem dL_date_8 : decode cL_date 8 = .ok (.iload 5, 2) := by decide +kernel
theorem dL_date_10 : decode cL_date 10 = .ok (.iload 6, 2) := by decide +kernel
theorem dL_date_12 : decode cL_date 12 = .ok (.invokevirtual 70, 3) := by decide +kernel
theorem dL_date_15 : decode cL_date 15 = .ok (.i2l, 1) := by decide +kernel
theorem dL_date_16 : decode cL_date 16 = .ok (.putfield 13, 3) := by decide +kernel
theorem dL_date_19 : decode cL_date 19 = .ok (.goto 11, 3) := by decide +kernel
theorem dL_date_22 : decode cL_date 22 = .ok (.astore 8, 2) := by decide +kernel
theorem dL_date_24 : decode cL_date 24 = .ok (.iconst 1, 1) := by decide +kernel
theorem dL_date_25 : decode cL_date 25 = .ok (.ireturn, 1) := by decide +kernel
theorem dL_date_26 : decode cL_date 26 = .ok (.astore 8, 2) := by decide +kernel
theorem dL_date_28 : decode cL_date 28 = .ok (.iconst 2, 1) := by decide +kernel
theorem dL_date_29 : decode cL_date 29 = .ok (.ireturn, 1) := by decide +kernel
theorem dL_date_30 : decode cL_date 30 = .ok (.iconst 0, 1) := by decide +kernel
theorem dL_date_31 : decode cL_date 31 = .ok (.ireturn, 1) := by decide +kernel
set_option maxHeartbeats 1000000 in
theorem c_L_date (ad ae : Nat → Nat) (cs : ClassId × ClassId × ClassId) (K : mK) (J : mJ) (rest : va_W) (ao : Nat) (n0 : Int64) (s0 : Value) (p0 : Int32) (p1 : Int32) (p2 : Int32) (p3 : Int32) (p4 : Int32) (p5 : Int32) : mCw (mTy cs) yL_date cL_date 9 (some .int) [(0, 19, 22, 19), (0, 19, 26, 21)] ⟨9, 5, 30, 154⟩ [.ref (ad 0), .int p0, .int p1, .int p2, .int p3, .int p4, .int p5, .ref ao] (mRw ad ae cs K J ((ao, .inr (4, [.long n0, s0])) :: rest)) (fun v ws' => ∃ (r : Int32) (K' : mK) (n1 : Int64) (s1 : Value), K'.1 = K.1 ∧ v = some (.int r) ∧ ws' = mRw ad ae cs K' J ((ao, .inr (4, [.long n1, s1])) :: rest)) := by
  refine mCw.of (by decide +kernel) (Nat.le_of_ble_eq_true rfl) (fun X hX hg hE => ?_)
  replace hX : mOK X RL cL_date 9 ⟨9, 5, 30, 154⟩ [(0, 19, 22, 19), (0, 19, 26, 21)] (mTy cs) := hX
  refine r_aload hX dL_date_0 rfl ?_
  refine r_aload_n hX dL_date_2 rfl rfl ?_
  refine r_iload_n hX dL_date_3 rfl rfl ?_
  refine r_iload_n hX dL_date_4 rfl rfl ?_
  refine r_iload_n hX dL_date_5 rfl rfl ?_
  refine r_iload hX dL_date_6 rfl ?_
  refine r_iload hX dL_date_8 rfl ?_
  refine r_iload hX dL_date_10 rfl ?_
  have kx : ∀ (E : String) (ws9 : va_W), mTh [xI, xA] (mRw ad ae cs K J ((ao, .inr (4, [.long n0, s0])) :: rest)) E ws9 → mT X 12 [(0, some (.ref (ad 0))), (1, some (.int p0)), (2, some (.int p1)), (3, some (.int p2)), (4, some (.int p3)), (5, some (.int p4)), (6, some (.int p5)), (7, some (.ref ao))] [.ref ao] ws9 (0 + 5) (0 + 30) E := by
    intro E ws9 z
    obtain ⟨zE, zw⟩ := z
    subst zw
    rcases List.mem_cons.mp zE with rfl | zE
    · refine r_catch1 hX rfl (by decide) kl_L_19 kca_I (fun q => ?_)
      refine r_astore hX dL_date_22 (by decide) rfl ?_
      refine r_iconst (v := 1) hX dL_date_24 (by decide) ?_
      exact r_iret hX hE dL_date_25 (Nat.le_of_ble_eq_true rfl) (Nat.le_of_ble_eq_true rfl) ⟨_, K, _, _, rfl, rfl, rfl⟩
    · obtain rfl := List.mem_singleton.mp zE
      refine r_catch2 hX hg (by decide) kl_L_19 rfl (by decide) kl_L_21 (fun q => ?_)
      refine r_astore hX dL_date_26 (by decide) rfl ?_
      refine r_iconst (v := 2) hX dL_date_28 (by decide) ?_
      exact r_iret hX hE dL_date_29 (Nat.le_of_ble_eq_true rfl) (Nat.le_of_ble_eq_true rfl) ⟨_, K, _, _, rfl, rfl, rfl⟩
  refine r_callV hX (c_X2_date ad cs K _ _ _ _ _ _ _) kv_L_70 0 rfl rfl rfl rfl (Nat.le_of_ble_eq_true rfl) ⟨(Nat.le_of_ble_eq_true rfl), (Nat.le_of_ble_eq_true rfl)⟩ ⟨(Nat.le_of_ble_eq_true rfl), (Nat.le_of_ble_eq_true rfl)⟩ dL_date_12 kx (fun v9 ws9 h9 => ?_)
  obtain ⟨r, K9, hK9, rfl, hw9⟩ := h9
  subst ws9
  dsimp only [mPush]
  refine r_i2l hX dL_date_15 ?_
  refine r_putN hX kg_L_13 21 rfl rfl rfl rfl (Nat.le_of_ble_eq_true rfl) dL_date_16 ?_
  refine r_goto (tgt := 30) hX dL_date_19 (by decide) ?_
  refine r_iconst (v := 0) hX dL_date_30 (by decide) ?_
  exact r_iret hX hE dL_date_31 (Nat.le_of_ble_eq_true rfl) (Nat.le_of_ble_eq_true rfl) ⟨_, K9, _, _, hK9, rfl, rfl⟩
theorem dL_dateOf_0 : decode cL_dateOf 0 = .ok (.aload 4, 2) := by decide +kernel
theorem dL_dateOf_2 : decode cL_dateOf 2 = .ok (.aload_n 0, 1) := by decide +kernel
theorem dL_dateOf_3 : decode cL_dateOf 3 = .ok (.iload_n 1, 1) := by decide +kernel
theorem dL_dateOf_4 : decode cL_dateOf 4 = .ok (.iload_n 2, 1) := by decide +kernel
theorem dL_dateOf_5 : decode cL_dateOf 5 = .ok (.iload_n 3, 1) := by decide +kernel
theorem dL_dateOf_6 : decode cL_dateOf 6 = .ok (.invokevirtual 74, 3) := by decide +kernel
theorem dL_dateOf_9 : decode cL_dateOf 9 = .ok (.i2l, 1) := by decide +kernel
theorem dL_dateOf_10 : decode cL_dateOf 10 = .ok (.putfield 13, 3) := by decide +kernel
theorem dL_dateOf_13 : decode cL_dateOf 13 = .ok (.goto 7, 3) := by decide +kernel
theorem dL_dateOf_16 : decode cL_dateOf 16 = .ok (.astore 5, 2) := by decide +kernel
theorem dL_dateOf_18 : decode cL_dateOf 18 = .ok (.iconst 1, 1) := by decide +kernel
theorem dL_dateOf_19 : decode cL_dateOf 19 = .ok (.ireturn, 1) := by decide +kernel
theorem dL_dateOf_20 : decode cL_dateOf 20 = .ok (.iconst 0, 1) := by decide +kernel
theorem dL_dateOf_21 : decode cL_dateOf 21 = .ok (.ireturn, 1) := by decide +kernel
set_option maxHeartbeats 1000000 in
theorem c_L_dateOf (ad ae : Nat → Nat) (cs : ClassId × ClassId × ClassId) (K : mK) (J : mJ) (rest : va_W) (ao : Nat) (n0 : Int64) (s0 : Value) (p0 : Int32) (p1 : Int32) (p2 : Int32) : mCw (mTy cs) yL_dateOf cL_dateOf 6 (some .int) [(0, 13, 16, 19)] ⟨9, 3, 18, 151⟩ [.ref (ad 0), .int p0, .int p1, .int p2, .ref ao] (mRw ad ae cs K J ((ao, .inr (4, [.long n0, s0])) :: rest)) (fun v ws' => ∃ (r : Int32) (K' : mK) (n1 : Int64) (s1 : Value), K'.1 = K.1 ∧ v = some (.int r) ∧ ws' = mRw ad ae cs K' J ((ao, .inr (4, [.long n1, s1])) :: rest)) := by
  refine mCw.of (by decide +kernel) (Nat.le_of_ble_eq_true rfl) (fun X hX hg hE => ?_)
  replace hX : mOK X RL cL_dateOf 6 ⟨9, 3, 18, 151⟩ [(0, 13, 16, 19)] (mTy cs) := hX
  refine r_aload hX dL_dateOf_0 rfl ?_
  refine r_aload_n hX dL_dateOf_2 rfl rfl ?_
  refine r_iload_n hX dL_dateOf_3 rfl rfl ?_
  refine r_iload_n hX dL_dateOf_4 rfl rfl ?_
  refine r_iload_n hX dL_dateOf_5 rfl rfl ?_
  have kx : ∀ (E : String) (ws9 : va_W), mTh [xI] (mRw ad ae cs K J ((ao, .inr (4, [.long n0, s0])) :: rest)) E ws9 → mT X 6 [(0, some (.ref (ad 0))), (1, some (.int p0)), (2, some (.int p1)), (3, some (.int p2)), (4, some (.ref ao))] [.ref ao] ws9 (0 + 3) (0 + 18) E := by
    intro E ws9 z
    obtain ⟨zE, zw⟩ := z
    subst zw
    obtain rfl := List.mem_singleton.mp zE
    refine r_catch1 hX rfl (by decide) kl_L_19 kca_I (fun q => ?_)
    refine r_astore hX dL_dateOf_16 (by decide) rfl ?_
    refine r_iconst (v := 1) hX dL_dateOf_18 (by decide) ?_
    exact r_iret hX hE dL_dateOf_19 (Nat.le_of_ble_eq_true rfl) (Nat.le_of_ble_eq_true rfl) ⟨_, K, _, _, rfl, rfl, rfl⟩
  refine r_callV hX (c_X2_dateOf ad cs K _ _ _ _) kv_L_74 0 rfl rfl rfl rfl (Nat.le_of_ble_eq_true rfl) ⟨(Nat.le_of_ble_eq_true rfl), (Nat.le_of_ble_eq_true rfl)⟩ ⟨(Nat.le_of_ble_eq_true rfl), (Nat.le_of_ble_eq_true rfl)⟩ dL_dateOf_6 kx (fun v9 ws9 h9 => ?_)
  obtain ⟨r, K9, hK9, rfl, hw9⟩ := h9
  subst ws9
  dsimp only [mPush]
  refine r_i2l hX dL_dateOf_9 ?_
  refine r_putN hX kg_L_13 21 rfl rfl rfl rfl (Nat.le_of_ble_eq_true rfl) dL_dateOf_10 ?_
  refine r_goto (tgt := 20) hX dL_dateOf_13 (by decide) ?_
  refine r_iconst (v := 0) hX dL_dateOf_20 (by decide) ?_
  exact r_iret hX hE dL_dateOf_21 (Nat.le_of_ble_eq_true rfl) (Nat.le_of_ble_eq_true rfl) ⟨_, K9, _, _, hK9, rfl, rfl⟩
theorem dL_moveDate_0 : decode cL_moveDate 0 = .ok (.aload 5, 2) := by decide +kernel
theorem dL_moveDate_2 : decode cL_moveDate 2 = .ok (.aload_n 0, 1) := by decide +kernel
theorem dL_moveDate_3 : decode cL_moveDate 3 = .ok (.iload_n 1, 1) := by decide +kernel
theorem dL_moveDate_4 : decode cL_moveDate 4 = .ok (.iload_n 2, 1) := by decide +kernel
theorem dL_moveDate_5 : decode cL_moveDate 5 = .ok (.iload_n 3, 1) := by decide +kernel
theorem dL_moveDate_6 : decode cL_moveDate 6 = .ok (.iload 4, 2) := by decide +kernel
theorem dL_moveDate_8 : decode cL_moveDate 8 = .ok (.invokevirtual 77, 3) := by decide +kernel
theorem dL_moveDate_11 : decode cL_moveDate 11 = .ok (.i2l, 1) := by decide +kernel
theorem dL_moveDate_12 : decode cL_moveDate 12 = .ok (.putfield 13, 3) := by decide +kernel
theorem dL_moveDate_15 : decode cL_moveDate 15 = .ok (.goto 11, 3) := by decide +kernel
theorem dL_moveDate_18 : decode cL_moveDate 18 = .ok (.astore 6, 2) := by decide +kernel
theorem dL_moveDate_20 : decode cL_moveDate 20 = .ok (.iconst 1, 1) := by decide +kernel
theorem dL_moveDate_21 : decode cL_moveDate 21 = .ok (.ireturn, 1) := by decide +kernel
theorem dL_moveDate_22 : decode cL_moveDate 22 = .ok (.astore 6, 2) := by decide +kernel
theorem dL_moveDate_24 : decode cL_moveDate 24 = .ok (.iconst 2, 1) := by decide +kernel
theorem dL_moveDate_25 : decode cL_moveDate 25 = .ok (.ireturn, 1) := by decide +kernel
theorem dL_moveDate_26 : decode cL_moveDate 26 = .ok (.iconst 0, 1) := by decide +kernel
theorem dL_moveDate_27 : decode cL_moveDate 27 = .ok (.ireturn, 1) := by decide +kernel
set_option maxHeartbeats 1000000 in
theorem c_L_moveDate (ad ae : Nat → Nat) (cs : ClassId × ClassId × ClassId) (K : mK) (J : mJ) (rest : va_W) (ao : Nat) (n0 : Int64) (s0 : Value) (p0 : Int32) (p1 : Int32) (p2 : Int32) (p3 : Int32) : mCw (mTy cs) yL_moveDate cL_moveDate 7 (some .int) [(0, 15, 18, 19), (0, 15, 22, 21)] ⟨8, 2, 12, 147⟩ [.ref (ad 0), .int p0, .int p1, .int p2, .int p3, .ref ao] (mRw ad ae cs K J ((ao, .inr (4, [.long n0, s0])) :: rest)) (fun v ws' => ∃ (r : Int32) (K' : mK) (n1 : Int64) (s1 : Value), K'.1 = K.1 ∧ v = some (.int r) ∧ ws' = mRw ad ae cs K' J ((ao, .inr (4, [.long n1, s1])) :: rest)) := by
  refine mCw.of (by decide +kernel) (Nat.le_of_ble_eq_true rfl) (fun X hX hg hE => ?_)
  replace hX : mOK X RL cL_moveDate 7 ⟨8, 2, 12, 147⟩ [(0, 15, 18, 19), (0, 15, 22, 21)] (mTy cs) := hX
  refine r_aload hX dL_moveDate_0 rfl ?_
  refine r_aload_n hX dL_moveDate_2 rfl rfl ?_
  refine r_iload_n hX dL_moveDate_3 rfl rfl ?_
  refine r_iload_n hX dL_moveDate_4 rfl rfl ?_
  refine r_iload_n hX dL_moveDate_5 rfl rfl ?_
  refine r_iload hX dL_moveDate_6 rfl ?_
  have kx : ∀ (E : String) (ws9 : va_W), mTh [xI, xA] (mRw ad ae cs K J ((ao, .inr (4, [.long n0, s0])) :: rest)) E ws9 → mT X 8 [(0, some (.ref (ad 0))), (1, some (.int p0)), (2, some (.int p1)), (3, some (.int p2)), (4, some (.int p3)), (5, some (.ref ao))] [.ref ao] ws9 (0 + 2) (0 + 12) E := by
    intro E ws9 z
    obtain ⟨zE, zw⟩ := z
    subst zw
    rcases List.mem_cons.mp zE with rfl | zE
    · refine r_catch1 hX rfl (by decide) kl_L_19 kca_I (fun q => ?_)
      refine r_astore hX dL_moveDate_18 (by decide) rfl ?_
      refine r_iconst (v := 1) hX dL_moveDate_20 (by decide) ?_
      exact r_iret hX hE dL_moveDate_21 (Nat.le_of_ble_eq_true rfl) (Nat.le_of_ble_eq_true rfl) ⟨_, K, _, _, rfl, rfl, rfl⟩
    · obtain rfl := List.mem_singleton.mp zE
      refine r_catch2 hX hg (by decide) kl_L_19 rfl (by decide) kl_L_21 (fun q => ?_)
      refine r_astore hX dL_moveDate_22 (by decide) rfl ?_
      refine r_iconst (v := 2) hX dL_moveDate_24 (by decide) ?_
      exact r_iret hX hE dL_moveDate_25 (Nat.le_of_ble_eq_true rfl) (Nat.le_of_ble_eq_true rfl) ⟨_, K, _, _, rfl, rfl, rfl⟩
  refine r_callV hX (c_X2_moveDate ad cs K _ _ _ _ _) kv_L_77 0 rfl rfl rfl rfl (Nat.le_of_ble_eq_true rfl) ⟨(Nat.le_of_ble_eq_true rfl), (Nat.le_of_ble_eq_true rfl)⟩ ⟨(Nat.le_of_ble_eq_true rfl), (Nat.le_of_ble_eq_true rfl)⟩ dL_moveDate_8 kx (fun v9 ws9 h9 => ?_)
  obtain ⟨r, K9, hK9, rfl, hw9⟩ := h9
  subst ws9
  dsimp only [mPush]
  refine r_i2l hX dL_moveDate_11 ?_
  refine r_putN hX kg_L_13 21 rfl rfl rfl rfl (Nat.le_of_ble_eq_true rfl) dL_moveDate_12 ?_
  refine r_goto (tgt := 26) hX dL_moveDate_15 (by decide) ?_
  refine r_iconst (v := 0) hX dL_moveDate_26 (by decide) ?_
  exact r_iret hX hE dL_moveDate_27 (Nat.le_of_ble_eq_true rfl) (Nat.le_of_ble_eq_true rfl) ⟨_, K9, _, _, hK9, rfl, rfl⟩
theorem dL_set_0 : decode cL_set 0 = .ok (.aload 4, 2) := by decide +kernel
theorem dL_set_2 : decode cL_set 2 = .ok (.aload_n 0, 1) := by decide +kernel
theorem dL_set_3 : decode cL_set 3 = .ok (.iload_n 1, 1) := by decide +kernel
theorem dL_set_4 : decode cL_set 4 = .ok (.iload_n 2, 1) := by decide +kernel
theorem dL_set_5 : decode cL_set 5 = .ok (.iload_n 3, 1) := by decide +kernel
theorem dL_set_6 : decode cL_set 6 = .ok (.invokevirtual 80, 3) := by decide +kernel
theorem dL_set_9 : decode cL_set 9 = .ok (.i2l, 1) := by decide +kernel
theorem dL_set_10 : decode cL_set 10 = .ok (.putfield 13, 3) := by decide +kernel
theorem dL_set_13 : decode cL_set 13 = .ok (.goto 11, 3) := by decide +kernel
theorem dL_set_16 : decode cL_set 16 = .ok (.astore 5, 2) := by decide +kernel
theorem dL_set_18 : decode cL_set 18 = .ok (.iconst 1, 1) := by decide +kernel
theorem dL_set_19 : decode cL_set 19 = .ok (.ireturn, 1) := by decide +kernel
theorem dL_set_20 : decode cL_set 20 = .ok (.astore 5, 2) := by decide +kernel
theorem dL_set_22 : decode cL_set 22 = .ok (.iconst 2, 1) := by decide +kernel
theorem dL_set_23 : decode cL_set 23 = .ok (.ireturn, 1) := by decide +kernel
theorem dL_set_24 : decode cL_set 24 = .ok (.iconst 0, 1) := by decide +kernel
theorem dL_set_25 : decode cL_set 25 = .ok (.ireturn, 1) := by decide +kernel
set_option maxHeartbeats 1000000 in
theorem c_L_set (ad ae : Nat → Nat) (cs : ClassId × ClassId × ClassId) (K : mK) (J : mJ) (rest : va_W) (ao : Nat) (n0 : Int64) (s0 : Value) (p0 : Int32) (p1 : Int32) (p2 : Int32) : mCw (mTy cs) yL_set cL_set 6 (some .int) [(0, 13, 16, 19), (0, 13, 20, 21)] ⟨8, 2, 12, 169⟩ [.ref (ad 0), .int p0, .int p1, .int p2, .ref ao] (mRw ad ae cs K J ((ao, .inr (4, [.long n0, s0])) :: rest)) (fun v ws' => ∃ (r : Int32) (K' : mK) (n1 : Int64) (s1 : Value), K'.1 = K.1 ∧ v = some (.int r) ∧ ws' = mRw ad ae cs K' J ((ao, .inr (4, [.long n1, s1])) :: rest)) := by
  refine mCw.of (by decide +kernel) (Nat.le_of_ble_eq_true rfl) (fun X hX hg hE => ?_)
  replace hX : mOK X RL cL_set 6 ⟨8, 2, 12, 169⟩ [(0, 13, 16, 19), (0, 13, 20, 21)] (mTy cs) := hX
  refine r_aload hX dL_set_0 rfl ?_
  refine r_aload_n hX dL_set_2 rfl rfl ?_
  refine r_iload_n hX dL_set_3 rfl rfl ?_
  refine r_iload_n hX dL_set_4 rfl rfl ?_
  refine r_iload_n hX dL_set_5 rfl rfl ?_
  have kx : ∀ (E : String) (ws9 : va_W), mTh [xI, xA] (mRw ad ae cs K J ((ao, .inr (4, [.long n0, s0])) :: rest)) E ws9 → mT X 6 [(0, some (.ref (ad 0))), (1, some (.int p0)), (2, some (.int p1)), (3, some (.int p2)), (4, some (.ref ao))] [.ref ao] ws9 (0 + 2) (0 + 12) E := by
    intro E ws9 z
    obtain ⟨zE, zw⟩ := z
    subst zw
    rcases List.mem_cons.mp zE with rfl | zE
    · refine r_catch1 hX rfl (by decide) kl_L_19 kca_I (fun q => ?_)
      refine r_astore hX dL_set_16 (by decide) rfl ?_
      refine r_iconst (v := 1) hX dL_set_18 (by decide) ?_
      exact r_iret hX hE dL_set_19 (Nat.le_of_ble_eq_true rfl) (Nat.le_of_ble_eq_true rfl) ⟨_, K, _, _, rfl, rfl, rfl⟩
    · obtain rfl := List.mem_singleton.mp zE
      refine r_catch2 hX hg (by decide) kl_L_19 rfl (by decide) kl_L_21 (fun q => ?_)
      refine r_astore hX dL_set_20 (by decide) rfl ?_
      refine r_iconst (v := 2) hX dL_set_22 (by decide) ?_
      exact r_iret hX hE dL_set_23 (Nat.le_of_ble_eq_true rfl) (Nat.le_of_ble_eq_true rfl) ⟨_, K, _, _, rfl, rfl, rfl⟩
  refine r_callV hX (c_X2_set ad cs K _ _ _ _) kv_L_80 0 rfl rfl rfl rfl (Nat.le_of_ble_eq_true rfl) ⟨(Nat.le_of_ble_eq_true rfl), (Nat.le_of_ble_eq_true rfl)⟩ ⟨(Nat.le_of_ble_eq_true rfl), (Nat.le_of_ble_eq_true rfl)⟩ dL_set_6 kx (fun v9 ws9 h9 => ?_)
  obtain ⟨r, K9, hK9, rfl, hw9⟩ := h9
  subst ws9
  dsimp only [mPush]
  refine r_i2l hX dL_set_9 ?_
  refine r_putN hX kg_L_13 21 rfl rfl rfl rfl (Nat.le_of_ble_eq_true rfl) dL_set_10 ?_
  refine r_goto (tgt := 24) hX dL_set_13 (by decide) ?_
  refine r_iconst (v := 0) hX dL_set_24 (by decide) ?_
  exact r_iret hX hE dL_set_25 (Nat.le_of_ble_eq_true rfl) (Nat.le_of_ble_eq_true rfl) ⟨_, K9, _, _, hK9, rfl, rfl⟩
theorem dL_anew_0 : decode cL_anew 0 = .ok (.aload 4, 2) := by decide +kernel
theorem dL_anew_2 : decode cL_anew 2 = .ok (.aload_n 0, 1) := by decide +kernel
theorem dL_anew_3 : decode cL_anew 3 = .ok (.iload_n 1, 1) := by decide +kernel
theorem dL_anew_4 : decode cL_anew 4 = .ok (.iload_n 2, 1) := by decide +kernel
theorem dL_anew_5 : decode cL_anew 5 = .ok (.iload_n 3, 1) := by decide +kernel
theorem dL_anew_6 : decode cL_anew 6 = .ok (.invokevirtual 83, 3) := by decide +kernel
theorem dL_anew_9 : decode cL_anew 9 = .ok (.i2l, 1) := by decide +kernel
theorem dL_anew_10 : decode cL_anew 10 = .ok (.putfield 13, 3) := by decide +kernel
theorem dL_anew_13 : decode cL_anew 13 = .ok (.goto 7, 3) := by decide +kernel
theorem dL_anew_16 : decode cL_anew 16 = .ok (.astore 5, 2) := by decide +kernel
theorem dL_anew_18 : decode cL_anew 18 = .ok (.iconst 1, 1) := by decide +kernel
theorem dL_anew_19 : decode cL_anew 19 = .ok (.ireturn, 1) := by decide +kernel
theorem dL_anew_20 : decode cL_anew 20 = .ok (.iconst 0, 1) := by decide +kernel
theorem dL_anew_21 : decode cL_anew 21 = .ok (.ireturn, 1) := by decide +kernel
set_option maxHeartbeats 1000000 in
theorem c_L_anew (ad ae : Nat → Nat) (cs : ClassId × ClassId × ClassId) (K : mK) (J : mJ) (rest : va_W) (ao : Nat) (n0 : Int64) (s0 : Value) (p0 : Int32) (p1 : Int32) (p2 : Int32) : mCw (mTy cs) yL_anew cL_anew 6 (some .int) [(0, 13, 16, 19)] ⟨9, 2, 12, 151⟩ [.ref (ad 0), .int p0, .int p1, .int p2, .ref ao] (mRw ad ae cs K J ((ao, .inr (4, [.long n0, s0])) :: rest)) (fun v ws' => ∃ (r : Int32) (K' : mK) (n1 : Int64) (s1 : Value), K'.1 = K.1 ∧ v = some (.int r) ∧ ws' = mRw ad ae cs K' J ((ao, .inr (4, [.long n1, s1])) :: rest)) := by
  refine mCw.of (by decide +kernel) (Nat.le_of_ble_eq_true rfl) (fun X hX hg hE => ?_)
  replace hX : mOK X RL cL_anew 6 ⟨9, 2, 12, 151⟩ [(0, 13, 16, 19)] (mTy cs) := hX
  refine r_aload hX dL_anew_0 rfl ?_
  refine r_aload_n hX dL_anew_2 rfl rfl ?_
  refine r_iload_n hX dL_anew_3 rfl rfl ?_
  refine r_iload_n hX dL_anew_4 rfl rfl ?_
  refine r_iload_n hX dL_anew_5 rfl rfl ?_
  have kx : ∀ (E : String) (ws9 : va_W), mTh [xI] (mRw ad ae cs K J ((ao, .inr (4, [.long n0, s0])) :: rest)) E ws9 → mT X 6 [(0, some (.ref (ad 0))), (1, some (.int p0)), (2, some (.int p1)), (3, some (.int p2)), (4, some (.ref ao))] [.ref ao] ws9 (0 + 2) (0 + 12) E := by
    intro E ws9 z
    obtain ⟨zE, zw⟩ := z
    subst zw
    obtain rfl := List.mem_singleton.mp zE
    refine r_catch1 hX rfl (by decide) kl_L_19 kca_I (fun q => ?_)
    refine r_astore hX dL_anew_16 (by decide) rfl ?_
    refine r_iconst (v := 1) hX dL_anew_18 (by decide) ?_
    exact r_iret hX hE dL_anew_19 (Nat.le_of_ble_eq_true rfl) (Nat.le_of_ble_eq_true rfl) ⟨_, K, _, _, rfl, rfl, rfl⟩
  refine r_callV hX (c_X2_anew ad cs K _ _ _ _) kv_L_83 0 rfl rfl rfl rfl (Nat.le_of_ble_eq_true rfl) ⟨(Nat.le_of_ble_eq_true rfl), (Nat.le_of_ble_eq_true rfl)⟩ ⟨(Nat.le_of_ble_eq_true rfl), (Nat.le_of_ble_eq_true rfl)⟩ dL_anew_6 kx (fun v9 ws9 h9 => ?_)
  obtain ⟨r, K9, hK9, rfl, hw9⟩ := h9
  subst ws9
  dsimp only [mPush]
  refine r_i2l hX dL_anew_9 ?_
  refine r_putN hX kg_L_13 21 rfl rfl rfl rfl (Nat.le_of_ble_eq_true rfl) dL_anew_10 ?_
  refine r_goto (tgt := 20) hX dL_anew_13 (by decide) ?_
  refine r_iconst (v := 0) hX dL_anew_20 (by decide) ?_
  exact r_iret hX hE dL_anew_21 (Nat.le_of_ble_eq_true rfl) (Nat.le_of_ble_eq_true rfl) ⟨_, K9, _, _, hK9, rfl, rfl⟩
theorem dL_copy_0 : decode cL_copy 0 = .ok (.aload_n 3, 1) := by decide +kernel
theorem dL_copy_1 : decode cL_copy 1 = .ok (.aload_n 0, 1) := by decide +kernel
theorem dL_copy_2 : decode cL_copy 2 = .ok (.iload_n 1, 1) := by decide +kernel
theorem dL_copy_3 : decode cL_copy 3 = .ok (.iload_n 2, 1) := by decide +kernel
theorem dL_copy_4 : decode cL_copy 4 = .ok (.invokevirtual 87, 3) := by decide +kernel
theorem dL_copy_7 : decode cL_copy 7 = .ok (.i2l, 1) := by decide +kernel
theorem dL_copy_8 : decode cL_copy 8 = .ok (.putfield 13, 3) := by decide +kernel
theorem dL_copy_11 : decode cL_copy 11 = .ok (.goto 7, 3) := by decide +kernel
theorem dL_copy_14 : decode cL_copy 14 = .ok (.astore 4, 2) := by decide +kernel
theorem dL_copy_16 : decode cL_copy 16 = .ok (.iconst 1, 1) := by decide +kernel
theorem dL_copy_17 : decode cL_copy 17 = .ok (.ireturn, 1) := by decide +kernel
theorem dL_copy_18 : decode cL_copy 18 = .ok (.iconst 0, 1) := by decide +kernel
theorem dL_copy_19 : decode cL_copy 19 = .ok (.ireturn, 1) := by decide +kernel
set_option maxHeartbeats 1000000 in
theorem c_L_copy (ad ae : Nat → Nat) (cs : ClassId × ClassId × ClassId) (K : mK) (J : mJ) (rest : va_W) (ao : Nat) (n0 : Int64) (s0 : Value) (p0 : Int32) (p1 : Int32) : mCw (mTy cs) yL_copy cL_copy 5 (some .int) [(0, 11, 14, 19)] ⟨8, 2, 12, 127⟩ [.ref (ad 0), .int p0, .int p1, .ref ao] (mRw ad ae cs K J ((ao, .inr (4, [.long n0, s0])) :: rest)) (fun v ws' => ∃ (r : Int32) (K' : mK) (n1 : Int64) (s1 : Value), K'.1 = K.1 ∧ v = some (.int r) ∧ ws' = mRw ad ae cs K' J ((ao, .inr (4, [.long n1, s1])) :: rest)) := by
  refine mCw.of (by decide +kernel) (Nat.le_of_ble_eq_true rfl) (fun X hX hg hE => ?_)
  replace hX : mOK X RL cL_copy 5 ⟨8, 2, 12, 127⟩ [(0, 11, 14, 19)] (mTy cs) := hX
  refine r_aload_n hX dL_copy_0 rfl rfl ?_
  refine r_aload_n hX dL_copy_1 rfl rfl ?_
  refine r_iload_n hX dL_copy_2 rfl rfl ?_
  refine r_iload_n hX dL_copy_3 rfl rfl ?_
  have kx : ∀ (E : String) (ws9 : va_W), mTh [xI] (mRw ad ae cs K J ((ao, .inr (4, [.long n0, s0])) :: rest)) E ws9 → mT X 4 [(0, some (.ref (ad 0))), (1, some (.int p0)), (2, some (.int p1)), (3, some (.ref ao))] [.ref ao] ws9 (0 + 2) (0 + 12) E := by
    intro E ws9 z
    obtain ⟨zE, zw⟩ := z
    subst zw
    obtain rfl := List.mem_singleton.mp zE
    refine r_catch1 hX rfl (by decide) kl_L_19 kca_I (fun q => ?_)
    refine r_astore hX dL_copy_14 (by decide) rfl ?_
    refine r_iconst (v := 1) hX dL_copy_16 (by decide) ?_
    exact r_iret hX hE dL_copy_17 (Nat.le_of_ble_eq_true rfl) (Nat.le_of_ble_eq_true rfl) ⟨_, K, _, _, rfl, rfl, rfl⟩
  refine r_callV hX (c_X2_copy ad cs K _ _ _) kv_L_87 0 rfl rfl rfl rfl (Nat.le_of_ble_eq_true rfl) ⟨(Nat.le_of_ble_eq_true rfl), (Nat.le_of_ble_eq_true rfl)⟩ ⟨(Nat.le_of_ble_eq_true rfl), (Nat.le_of_ble_eq_true rfl)⟩ dL_copy_4 kx (fun v9 ws9 h9 => ?_)
  obtain ⟨r, K9, hK9, rfl, hw9⟩ := h9
  subst ws9
  dsimp only [mPush]
  refine r_i2l hX dL_copy_7 ?_
  refine r_putN hX kg_L_13 21 rfl rfl rfl rfl (Nat.le_of_ble_eq_true rfl) dL_copy_8 ?_
  refine r_goto (tgt := 18) hX dL_copy_11 (by decide) ?_
  refine r_iconst (v := 0) hX dL_copy_18 (by decide) ?_
  exact r_iret hX hE dL_copy_19 (Nat.le_of_ble_eq_true rfl) (Nat.le_of_ble_eq_true rfl) ⟨_, K9, _, _, hK9, rfl, rfl⟩
theorem dL_ofDate_0 : decode cL_ofDate 0 = .ok (.aload_n 3, 1) := by decide +kernel
theorem dL_ofDate_1 : decode cL_ofDate 1 = .ok (.aload_n 0, 1) := by decide +kernel
theorem dL_ofDate_2 : decode cL_ofDate 2 = .ok (.iload_n 1, 1) := by decide +kernel
theorem dL_ofDate_3 : decode cL_ofDate 3 = .ok (.iload_n 2, 1) := by decide +kernel
theorem dL_ofDate_4 : decode cL_ofDate 4 = .ok (.invokevirtual 90, 3) := by decide +kernel
theorem dL_ofDate_7 : decode cL_ofDate 7 = .ok (.i2l, 1) := by decide +kernel
theorem dL_ofDate_8 : decode cL_ofDate 8 = .ok (.putfield 13, 3) := by decide +kernel
theorem dL_ofDate_11 : decode cL_ofDate 11 = .ok (.goto 11, 3) := by decide +kernel
theorem dL_ofDate_14 : decode cL_ofDate 14 = .ok (.astore 4, 2) := by decide +kernel
theorem dL_ofDate_16 : decode cL_ofDate 16 = .ok (.iconst 1, 1) := by decide +kernel
theorem dL_ofDate_17 : decode cL_ofDate 17 = .ok (.ireturn, 1) := by decide +kernel
theorem dL_ofDate_18 : decode cL_ofDate 18 = .ok (.astore 4, 2) := by decide +kernel
theorem dL_ofDate_20 : decode cL_ofDate 20 = .ok (.iconst 2, 1) := by decide +kernel
theorem dL_ofDate_21 : decode cL_ofDate 21 = .ok (.ireturn, 1) := by decide +kernel
theorem dL_ofDate_22 : decode cL_ofDate 22 = .ok (.iconst 0, 1) := by decide +kernel
theorem dL_ofDate_23 : decode cL_ofDate 23 = .ok (.ireturn, 1) := by decide +kernel
set_option maxHeartbeats 1000000 in
theorem c_L_ofDate (ad ae : Nat → Nat) (cs : ClassId × ClassId × ClassId) (K : mK) (J : mJ) (rest : va_W) (ao : Nat) (n0 : Int64) (s0 : Value) (p0 : Int32) (p1 : Int32) : mCw (mTy cs) yL_ofDate cL_ofDate 5 (some .int) [(0, 11, 14, 19), (0, 11, 18, 21)] ⟨8, 2, 12, 130⟩ [.ref (ad 0), .int p0, .int p1, .ref ao] (mRw ad ae cs K J ((ao, .inr (4, [.long n0, s0])) :: rest)) (fun v ws' => ∃ (r : Int32) (K' : mK) (n1 : Int64) (s1 : Value), K'.1 = K.1 ∧ v = some (.int r) ∧ ws' = mRw ad ae cs K' J ((ao, .inr (4, [.long n1, s1])) :: rest)) := by
  refine mCw.of (by decide +kernel) (Nat.le_of_ble_eq_true rfl) (fun X hX hg hE => ?_)
  replace hX : mOK X RL cL_ofDate 5 ⟨8, 2, 12, 130⟩ [(0, 11, 14, 19), (0, 11, 18, 21)] (mTy cs) := hX
  refine r_aload_n hX dL_ofDate_0 rfl rfl ?_
  refine r_aload_n hX dL_ofDate_1 rfl rfl ?_
  refine r_iload_n hX dL_ofDate_2 rfl rfl ?_
  refine r_iload_n hX dL_ofDate_3 rfl rfl ?_
  have kx : ∀ (E : String) (ws9 : va_W), mTh [xI, xA] (mRw ad ae cs K J ((ao, .inr (4, [.long n0, s0])) :: rest)) E ws9 → mT X 4 [(0, some (.ref (ad 0))), (1, some (.int p0)), (2, some (.int p1)), (3, some (.ref ao))] [.ref ao] ws9 (0 + 2) (0 + 12) E := by
    intro E ws9 z
    obtain ⟨zE, zw⟩ := z
    subst zw
    rcases List.mem_cons.mp zE with rfl | zE
    · refine r_catch1 hX rfl (by decide) kl_L_19 kca_I (fun q => ?_)
      refine r_astore hX dL_ofDate_14 (by decide) rfl ?_
      refine r_iconst (v := 1) hX dL_ofDate_16 (by decide) ?_
      exact r_iret hX hE dL_ofDate_17 (Nat.le_of_ble_eq_true rfl) (Nat.le_of_ble_eq_true rfl) ⟨_, K, _, _, rfl, rfl, rfl⟩
    · obtain rfl := List.mem_singleton.mp zE
      refine r_catch2 hX hg (by decide) kl_L_19 rfl (by decide) kl_L_21 (fun q => ?_)
      refine r_astore hX dL_ofDate_18 (by decide) rfl ?_
      refine r_iconst (v := 2) hX dL_ofDate_20 (by decide) ?_
      exact r_iret hX hE dL_ofDate_21 (Nat.le_of_ble_eq_true rfl) (Nat.le_of_ble_eq_true rfl) ⟨_, K, _, _, rfl, rfl, rfl⟩
  refine r_callV hX (c_X2_ofDate ad cs K _ _ _) kv_L_90 0 rfl rfl rfl rfl (Nat.le_of_ble_eq_true rfl) ⟨(Nat.le_of_ble_eq_true rfl), (Nat.le_of_ble_eq_true rfl)⟩ ⟨(Nat.le_of_ble_eq_true rfl), (Nat.le_of_ble_eq_true rfl)⟩ dL_ofDate_4 kx (fun v9 ws9 h9 => ?_)
  obtain ⟨r, K9, hK9, rfl, hw9⟩ := h9
  subst ws9
  dsimp only [mPush]
  refine r_i2l hX dL_ofDate_7 ?_
  refine r_putN hX kg_L_13 21 rfl rfl rfl rfl (Nat.le_of_ble_eq_true rfl) dL_ofDate_8 ?_
  refine r_goto (tgt := 22) hX dL_ofDate_11 (by decide) ?_
  refine r_iconst (v := 0) hX dL_ofDate_22 (by decide) ?_
  exact r_iret hX hE dL_ofDate_23 (Nat.le_of_ble_eq_true rfl) (Nat.le_of_ble_eq_true rfl) ⟨_, K9, _, _, hK9, rfl, rfl⟩
theorem dL_orderDate_0 : decode cL_orderDate 0 = .ok (.aload_n 3, 1) := by decide +kernel
theorem dL_orderDate_1 : decode cL_orderDate 1 = .ok (.aload_n 0, 1) := by decide +kernel
theorem dL_orderDate_2 : decode cL_orderDate 2 = .ok (.iload_n 1, 1) := by decide +kernel
theorem dL_orderDate_3 : decode cL_orderDate 3 = .ok (.iload_n 2, 1) := by decide +kernel
theorem dL_orderDate_4 : decode cL_orderDate 4 = .ok (.invokevirtual 93, 3) := by decide +kernel
theorem dL_orderDate_7 : decode cL_orderDate 7 = .ok (.i2l, 1) := by decide +kernel
theorem dL_orderDate_8 : decode cL_orderDate 8 = .ok (.putfield 13, 3) := by decide +kernel
theorem dL_orderDate_11 : decode cL_orderDate 11 = .ok (.goto 7, 3) := by decide +kernel
theorem dL_orderDate_14 : decode cL_orderDate 14 = .ok (.astore 4, 2) := by decide +kernel
theorem dL_orderDate_16 : decode cL_orderDate 16 = .ok (.iconst 1, 1) := by decide +kernel
theorem dL_orderDate_17 : decode cL_orderDate 17 = .ok (.ireturn, 1) := by decide +kernel
theorem dL_orderDate_18 : decode cL_orderDate 18 = .ok (.iconst 0, 1) := by decide +kernel
theorem dL_orderDate_19 : decode cL_orderDate 19 = .ok (.ireturn, 1) := by decide +kernel
set_option maxHeartbeats 1000000 in
theorem c_L_orderDate (ad ae : Nat → Nat) (cs : ClassId × ClassId × ClassId) (K : mK) (J : mJ) (rest : va_W) (ao : Nat) (n0 : Int64) (s0 : Value) (p0 : Int32) (p1 : Int32) : mCw (mTy cs) yL_orderDate cL_orderDate 5 (some .int) [(0, 11, 14, 19)] ⟨8, 2, 12, 125⟩ [.ref (ad 0), .int p0, .int p1, .ref ao] (mRw ad ae cs K J ((ao, .inr (4, [.long n0, s0])) :: rest)) (fun v ws' => ∃ (r : Int32) (K' : mK) (n1 : Int64) (s1 : Value), K'.1 = K.1 ∧ v = some (.int r) ∧ ws' = mRw ad ae cs K' J ((ao, .inr (4, [.long n1, s1])) :: rest)) := by
  refine mCw.of (by decide +kernel) (Nat.le_of_ble_eq_true rfl) (fun X hX hg hE => ?_)
  replace hX : mOK X RL cL_orderDate 5 ⟨8, 2, 12, 125⟩ [(0, 11, 14, 19)] (mTy cs) := hX
  refine r_aload_n hX dL_orderDate_0 rfl rfl ?_
  refine r_aload_n hX dL_orderDate_1 rfl rfl ?_
  refine r_iload_n hX dL_orderDate_2 rfl rfl ?_
  refine r_iload_n hX dL_orderDate_3 rfl rfl ?_
  have kx : ∀ (E : String) (ws9 : va_W), mTh [xI] (mRw ad ae cs K J ((ao, .inr (4, [.long n0, s0])) :: rest)) E ws9 → mT X 4 [(0, some (.ref (ad 0))), (1, some (.int p0)), (2, some (.int p1)), (3, some (.ref ao))] [.ref ao] ws9 (0 + 2) (0 + 12) E := by
    intro E ws9 z
    obtain ⟨zE, zw⟩ := z
    subst zw
    obtain rfl := List.mem_singleton.mp zE
    refine r_catch1 hX rfl (by decide) kl_L_19 kca_I (fun q => ?_)
    refine r_astore hX dL_orderDate_14 (by decide) rfl ?_
    refine r_iconst (v := 1) hX dL_orderDate_16 (by decide) ?_
    exact r_iret hX hE dL_orderDate_17 (Nat.le_of_ble_eq_true rfl) (Nat.le_of_ble_eq_true rfl) ⟨_, K, _, _, rfl, rfl, rfl⟩
  refine r_callV hX (c_X2_orderDate ad cs K _ _ _) kv_L_93 0 rfl rfl rfl rfl (Nat.le_of_ble_eq_true rfl) ⟨(Nat.le_of_ble_eq_true rfl), (Nat.le_of_ble_eq_true rfl)⟩ ⟨(Nat.le_of_ble_eq_true rfl), (Nat.le_of_ble_eq_true rfl)⟩ dL_orderDate_4 kx (fun v9 ws9 h9 => ?_)
  obtain ⟨r, K9, hK9, rfl, hw9⟩ := h9
  subst ws9
  dsimp only [mPush]
  refine r_i2l hX dL_orderDate_7 ?_
  refine r_putN hX kg_L_13 21 rfl rfl rfl rfl (Nat.le_of_ble_eq_true rfl) dL_orderDate_8 ?_
  refine r_goto (tgt := 18) hX dL_orderDate_11 (by decide) ?_
  refine r_iconst (v := 0) hX dL_orderDate_18 (by decide) ?_
  exact r_iret hX hE dL_orderDate_19 (Nat.le_of_ble_eq_true rfl) (Nat.le_of_ble_eq_true rfl) ⟨_, K9, _, _, hK9, rfl, rfl⟩
theorem dL_isDate_0 : decode cL_isDate 0 = .ok (.aload 4, 2) := by decide +kernel
theorem dL_isDate_2 : decode cL_isDate 2 = .ok (.aload_n 0, 1) := by decide +kernel
theorem dL_isDate_3 : decode cL_isDate 3 = .ok (.iload_n 1, 1) := by decide +kernel
theorem dL_isDate_4 : decode cL_isDate 4 = .ok (.iload_n 2, 1) := by decide +kernel
theorem dL_isDate_5 : decode cL_isDate 5 = .ok (.iload_n 3, 1) := by decide +kernel
theorem dL_isDate_6 : decode cL_isDate 6 = .ok (.invokevirtual 96, 3) := by decide +kernel
theorem dL_isDate_9 : decode cL_isDate 9 = .ok (.ifCond .eq 7, 3) := by decide +kernel
theorem dL_isDate_12 : decode cL_isDate 12 = .ok (.lconst 1, 1) := by decide +kernel
theorem dL_isDate_13 : decode cL_isDate 13 = .ok (.goto 4, 3) := by decide +kernel
theorem dL_isDate_16 : decode cL_isDate 16 = .ok (.lconst 0, 1) := by decide +kernel
theorem dL_isDate_17 : decode cL_isDate 17 = .ok (.putfield 13, 3) := by decide +kernel
theorem dL_isDate_20 : decode cL_isDate 20 = .ok (.goto 11, 3) := by decide +kernel
theorem dL_isDate_23 : decode cL_isDate 23 = .ok (.astore 5, 2) := by decide +kernel
theorem dL_isDate_25 : decode cL_isDate 25 = .ok (.iconst 1, 1) := by decide +kernel
theorem dL_isDate_26 : decode cL_isDate 26 = .ok (.ireturn, 1) := by decide +kernel
theorem dL_isDate_27 : decode cL_isDate 27 = .ok (.astore 5, 2) := by decide +kernel
theorem dL_isDate_29 : decode cL_isDate 29 = .ok (.iconst 2, 1) := by decide +kernel
theorem dL_isDate_30 : decode cL_isDate 30 = .ok (.ireturn, 1) := by decide +kernel
theorem dL_isDate_31 : decode cL_isDate 31 = .ok (.iconst 0, 1) := by decide +kernel
theorem dL_isDate_32 : decode cL_isDate 32 = .ok (.ireturn, 1) := by decide +kernel
set_option maxHeartbeats 1000000 in
theorem c_L_isDate (ad ae : Nat → Nat) (cs : ClassId × ClassId × ClassId) (K : mK) (J : mJ) (rest : va_W) (ao : Nat) (n0 : Int64) (s0 : Value) (p0 : Int32) (p1 : Int32) (p2 : Int32) : mCw (mTy cs) yL_isDate cL_isDate 6 (some .int) [(0, 20, 23, 19), (0, 20, 27, 21)] ⟨8, 3, 18, 129⟩ [.ref (ad 0), .int p0, .int p1, .int p2, .ref ao] (mRw ad ae cs K J ((ao, .inr (4, [.long n0, s0])) :: rest)) (fun v ws' => ∃ (r : Int32) (K' : mK) (n1 : Int64) (s1 : Value), K'.1 = K.1 ∧ v = some (.int r) ∧ ws' = mRw ad ae cs K' J ((ao, .inr (4, [.long n1, s1])) :: rest)) := by
  refine mCw.of (by decide +kernel) (Nat.le_of_ble_eq_true rfl) (fun X hX hg hE => ?_)
  replace hX : mOK X RL cL_isDate 6 ⟨8, 3, 18, 129⟩ [(0, 20, 23, 19), (0, 20, 27, 21)] (mTy cs) := hX
  refine r_aload hX dL_isDate_0 rfl ?_
  refine r_aload_n hX dL_isDate_2 rfl rfl ?_
  refine r_iload_n hX dL_isDate_3 rfl rfl ?_
  refine r_iload_n hX dL_isDate_4 rfl rfl ?_
  refine r_iload_n hX dL_isDate_5 rfl rfl ?_
  have kx : ∀ (E : String) (ws9 : va_W), mTh [xI, xA] (mRw ad ae cs K J ((ao, .inr (4, [.long n0, s0])) :: rest)) E ws9 → mT X 6 [(0, some (.ref (ad 0))), (1, some (.int p0)), (2, some (.int p1)), (3, some (.int p2)), (4, some (.ref ao))] [.ref ao] ws9 (0 + 3) (0 + 18) E := by
    intro E ws9 z
    obtain ⟨zE, zw⟩ := z
    subst zw
    rcases List.mem_cons.mp zE with rfl | zE
    · refine r_catch1 hX rfl (by decide) kl_L_19 kca_I (fun q => ?_)
      refine r_astore hX dL_isDate_23 (by decide) rfl ?_
      refine r_iconst (v := 1) hX dL_isDate_25 (by decide) ?_
      exact r_iret hX hE dL_isDate_26 (Nat.le_of_ble_eq_true rfl) (Nat.le_of_ble_eq_true rfl) ⟨_, K, _, _, rfl, rfl, rfl⟩
    · obtain rfl := List.mem_singleton.mp zE
      refine r_catch2 hX hg (by decide) kl_L_19 rfl (by decide) kl_L_21 (fun q => ?_)
      refine r_astore hX dL_isDate_27 (by decide) rfl ?_
      refine r_iconst (v := 2) hX dL_isDate_29 (by decide) ?_
      exact r_iret hX hE dL_isDate_30 (Nat.le_of_ble_eq_true rfl) (Nat.le_of_ble_eq_true rfl) ⟨_, K, _, _, rfl, rfl, rfl⟩
  refine r_callV hX (c_X2_isDate ad cs K _ _ _ _) kv_L_96 0 rfl rfl rfl rfl (Nat.le_of_ble_eq_true rfl) ⟨(Nat.le_of_ble_eq_true rfl), (Nat.le_of_ble_eq_true rfl)⟩ ⟨(Nat.le_of_ble_eq_true rfl), (Nat.le_of_ble_eq_true rfl)⟩ dL_isDate_6 kx (fun v9 ws9 h9 => ?_)
  obtain ⟨r, K9, br, hK9, rfl, hw9⟩ := h9
  subst ws9
  dsimp only [mPush]
  refine r_if_eq (tgt := 16) hX dL_isDate_9 (by decide) (fun _ => ?_) (fun _ => ?_)
  · refine r_lconst (v := 0) hX dL_isDate_16 (by decide) ?_
    refine r_putN hX kg_L_13 21 rfl rfl rfl rfl (Nat.le_of_ble_eq_true rfl) dL_isDate_17 ?_
    refine r_goto (tgt := 31) hX dL_isDate_20 (by decide) ?_
    refine r_iconst (v := 0) hX dL_isDate_31 (by decide) ?_
    exact r_iret hX hE dL_isDate_32 (Nat.le_of_ble_eq_true rfl) (Nat.le_of_ble_eq_true rfl) ⟨_, K9, _, _, hK9, rfl, rfl⟩
  · refine r_lconst (v := 1) hX dL_isDate_12 (by decide) ?_
    refine r_goto (tgt := 17) hX dL_isDate_13 (by decide) ?_
    refine r_putN hX kg_L_13 21 rfl rfl rfl rfl (Nat.le_of_ble_eq_true rfl) dL_isDate_17 ?_
    refine r_goto (tgt := 31) hX dL_isDate_20 (by decide) ?_
    refine r_iconst (v := 0) hX dL_isDate_31 (by decide) ?_
    exact r_iret hX hE dL_isDate_32 (Nat.le_of_ble_eq_true rfl) (Nat.le_of_ble_eq_true rfl) ⟨_, K9, _, _, hK9, rfl, rfl⟩
theorem dL_clock_0 : decode cL_clock 0 = .ok (.aload 5, 2) := by decide +kernel
theorem dL_clock_2 : decode cL_clock 2 = .ok (.aload_n 0, 1) := by decide +kernel
theorem dL_clock_3 : decode cL_clock 3 = .ok (.iload_n 1, 1) := by decide +kernel
theorem dL_clock_4 : decode cL_clock 4 = .ok (.iload_n 2, 1) := by decide +kernel
theorem dL_clock_5 : decode cL_clock 5 = .ok (.iload_n 3, 1) := by decide +kernel
theorem dL_clock_6 : decode cL_clock 6 = .ok (.iload 4, 2) := by decide +kernel
theorem dL_clock_8 : decode cL_clock 8 = .ok (.invokevirtual 99, 3) := by decide +kernel
theorem dL_clock_11 : decode cL_clock 11 = .ok (.i2l, 1) := by decide +kernel
theorem dL_clock_12 : decode cL_clock 12 = .ok (.putfield 13, 3) := by decide +kernel
theorem dL_clock_15 : decode cL_clock 15 = .ok (.goto 11, 3) := by decide +kernel
theorem dL_clock_18 : decode cL_clock 18 = .ok (.astore 6, 2) := by decide +kernel
theorem dL_clock_20 : decode cL_clock 20 = .ok (.iconst 1, 1) := by decide +kernel
theorem dL_clock_21 : decode cL_clock 21 = .ok (.ireturn, 1) := by decide +kernel
theorem dL_clock_22 : decode cL_clock 22 = .ok (.astore 6, 2) := by decide +kernel
theorem dL_clock_24 : decode cL_clock 24 = .ok (.iconst 2, 1) := by decide +kernel
theorem dL_clock_25 : decode cL_clock 25 = .ok (.ireturn, 1) := by decide +kernel
theorem dL_clock_26 : decode cL_clock 26 = .ok (.iconst 0, 1) := by decide +kernel
theorem dL_clock_27 : decode cL_clock 27 = .ok (.ireturn, 1) := by decide +kernel
set_option maxHeartbeats 1000000 in
theorem c_L_clock (ad ae : Nat → Nat) (cs : ClassId × ClassId × ClassId) (K : mK) (J : mJ) (rest : va_W) (ao : Nat) (n0 : Int64) (s0 : Value) (p0 : Int32) (p1 : Int32) (p2 : Int32) (p3 : Int32) : mCw (mTy cs) yL_clock cL_clock 7 (some .int) [(0, 15, 18, 19), (0, 15, 22, 21)] ⟨9, 4, 24, 150⟩ [.ref (ad 0), .int p0, .int p1, .int p2, .int p3, .ref ao] (mRw ad ae cs K J ((ao, .inr (4, [.long n0, s0])) :: rest)) (fun v ws' => ∃ (r : Int32) (K' : mK) (n1 : Int64) (s1 : Value), K'.1 = K.1 ∧ v = some (.int r) ∧ ws' = mRw ad ae cs K' J ((ao, .inr (4, [.long n1, s1])) :: rest)) := by
  refine mCw.of (by decide +kernel) (Nat.le_of_ble_eq_true rfl) (fun X hX hg hE => ?_)
  replace hX : mOK X RL cL_clock 7 ⟨9, 4, 24, 150⟩ [(0, 15, 18, 19), (0, 15, 22, 21)] (mTy cs) := hX
  refine r_aload hX dL_clock_0 rfl ?_
  refine r_aload_n hX dL_clock_2 rfl rfl ?_
  refine r_iload_n hX dL_clock_3 rfl rfl ?_
  refine r_iload_n hX dL_clock_4 rfl rfl ?_
  refine r_iload_n hX dL_clock_5 rfl rfl ?_
  refine r_iload hX dL_clock_6 rfl ?_
  have kx : ∀ (E : String) (ws9 : va_W), mTh [xI, xA] (mRw ad ae cs K J ((ao, .inr (4, [.long n0, s0])) :: rest)) E ws9 → mT X 8 [(0, some (.ref (ad 0))), (1, some (.int p0)), (2, some (.int p1)), (3, some (.int p2)), (4, some (.int p3)), (5, some (.ref ao))] [.ref ao] ws9 (0 + 4) (0 + 24) E := by
    intro E ws9 z
    obtain ⟨zE, zw⟩ := z
    subst zw
    rcases List.mem_cons.mp zE with rfl | zE
    · refine r_catch1 hX rfl (by decide) kl_L_19 kca_I (fun q => ?_)
      refine r_astore hX dL_clock_18 (by decide) rfl ?_
      refine r_iconst (v := 1) hX dL_clock_20 (by decide) ?_
      exact r_iret hX hE dL_clock_21 (Nat.le_of_ble_eq_true rfl) (Nat.le_of_ble_eq_true rfl) ⟨_, K, _, _, rfl, rfl, rfl⟩
    · obtain rfl := List.mem_singleton.mp zE
      refine r_catch2 hX hg (by decide) kl_L_19 rfl (by decide) kl_L_21 (fun q => ?_)
      refine r_astore hX dL_clock_22 (by decide) rfl ?_
      refine r_iconst (v := 2) hX dL_clock_24 (by decide) ?_
      exact r_iret hX hE dL_clock_25 (Nat.le_of_ble_eq_true rfl) (Nat.le_of_ble_eq_true rfl) ⟨_, K, _, _, rfl, rfl, rfl⟩
  refine r_callV hX (c_X2_clock ad cs K _ _ _ _ _) kv_L_99 0 rfl rfl rfl rfl (Nat.le_of_ble_eq_true rfl) ⟨(Nat.le_of_ble_eq_true rfl), (Nat.le_of_ble_eq_true rfl)⟩ ⟨(Nat.le_of_ble_eq_true rfl), (Nat.le_of_ble_eq_true rfl)⟩ dL_clock_8 kx (fun v9 ws9 h9 => ?_)
  obtain ⟨r, K9, hK9, rfl, hw9⟩ := h9
  subst ws9
  dsimp only [mPush]
  refine r_i2l hX dL_clock_11 ?_
  refine r_putN hX kg_L_13 21 rfl rfl rfl rfl (Nat.le_of_ble_eq_true rfl) dL_clock_12 ?_
  refine r_goto (tgt := 26) hX dL_clock_15 (by decide) ?_
  refine r_iconst (v := 0) hX dL_clock_26 (by decide) ?_
  exact r_iret hX hE dL_clock_27 (Nat.le_of_ble_eq_true rfl) (Nat.le_of_ble_eq_true rfl) ⟨_, K9, _, _, hK9, rfl, rfl⟩
theorem dL_clockOf_0 : decode cL_clockOf 0 = .ok (.aload_n 3, 1) := by decide +kernel
theorem dL_clockOf_1 : decode cL_clockOf 1 = .ok (.aload_n 0, 1) := by decide +kernel
theorem dL_clockOf_2 : decode cL_clockOf 2 = .ok (.iload_n 1, 1) := by decide +kernel
theorem dL_clockOf_3 : decode cL_clockOf 3 = .ok (.iload_n 2, 1) := by decide +kernel
theorem dL_clockOf_4 : decode cL_clockOf 4 = .ok (.invokevirtual 102, 3) := by decide +kernel
theorem dL_clockOf_7 : decode cL_clockOf 7 = .ok (.i2l, 1) := by decide +kernel
theorem dL_clockOf_8 : decode cL_clockOf 8 = .ok (.putfield 13, 3) := by decide +kernel
theorem dL_clockOf_11 : decode cL_clockOf 11 = .ok (.goto 7, 3) := by decide +kernel
theorem dL_clockOf_14 : decode cL_clockOf 14 = .ok (.astore 4, 2) := by decide +kernel
theorem dL_clockOf_16 : decode cL_clockOf 16 = .ok (.iconst 1, 1) := by decide +kernel
theorem dL_clockOf_17 : decode cL_clockOf 17 = .ok (.ireturn, 1) := by decide +kernel
theorem dL_clockOf_18 : decode cL_clockOf 18 = .ok (.iconst 0, 1) := by decide +kernel
theorem dL_clockOf_19 : decode cL_clockOf 19 = .ok (.ireturn, 1) := by decide +kernel
set_option maxHeartbeats 1000000 in
theorem c_L_clockOf (ad ae : Nat → Nat) (cs : ClassId × ClassId × ClassId) (K : mK) (J : mJ) (rest : va_W) (ao : Nat) (n0 : Int64) (s0 : Value) (p0 : Int32) (p1 : Int32) : mCw (mTy cs) yL_clockOf cL_clockOf 5 (some .int) [(0, 11, 14, 19)] ⟨8, 2, 12, 127⟩ [.ref (ad 0), .int p0, .int p1, .ref ao] (mRw ad ae cs K J ((ao, .inr (4, [.long n0, s0])) :: rest)) (fun v ws' => ∃ (r : Int32) (K' : mK) (n1 : Int64) (s1 : Value), K'.1 = K.1 ∧ v = some (.int r) ∧ ws' = mRw ad ae cs K' J ((ao, .inr (4, [.long n1, s1])) :: rest)) := by
  refine mCw.of (by decide +kernel) (Nat.le_of_ble_eq_true rfl) (fun X hX hg hE => ?_)
  replace hX : mOK X RL cL_clockOf 5 ⟨8, 2, 12, 127⟩ [(0, 11, 14, 19)] (mTy cs) := hX
  refine r_aload_n hX dL_clockOf_0 rfl rfl ?_
  refine r_aload_n hX dL_clockOf_1 rfl rfl ?_
  refine r_iload_n hX dL_clockOf_2 rfl rfl ?_
  refine r_iload_n hX dL_clockOf_3 rfl rfl ?_
  have kx : ∀ (E : String) (ws9 : va_W), mTh [xI] (mRw ad ae cs K J ((ao, .inr (4, [.long n0, s0])) :: rest)) E ws9 → mT X 4 [(0, some (.ref (ad 0))), (1, some (.int p0)), (2, some (.int p1)), (3, some (.ref ao))] [.ref ao] ws9 (0 + 2) (0 + 12) E := by
    intro E ws9 z
    obtain ⟨zE, zw⟩ := z
    subst zw
    obtain rfl := List.mem_singleton.mp zE
    refine r_catch1 hX rfl (by decide) kl_L_19 kca_I (fun q => ?_)
    refine r_astore hX dL_clockOf_14 (by decide) rfl ?_
    refine r_iconst (v := 1) hX dL_clockOf_16 (by decide) ?_
    exact r_iret hX hE dL_clockOf_17 (Nat.le_of_ble_eq_true rfl) (Nat.le_of_ble_eq_true rfl) ⟨_, K, _, _, rfl, rfl, rfl⟩
  refine r_callV hX (c_X2_clockOf ad cs K _ _ _) kv_L_102 0 rfl rfl rfl rfl (Nat.le_of_ble_eq_true rfl) ⟨(Nat.le_of_ble_eq_true rfl), (Nat.le_of_ble_eq_true rfl)⟩ ⟨(Nat.le_of_ble_eq_true rfl), (Nat.le_of_ble_eq_true rfl)⟩ dL_clockOf_4 kx (fun v9 ws9 h9 => ?_)
  obtain ⟨r, K9, hK9, rfl, hw9⟩ := h9
  subst ws9
  dsimp only [mPush]
  refine r_i2l hX dL_clockOf_7 ?_
  refine r_putN hX kg_L_13 21 rfl rfl rfl rfl (Nat.le_of_ble_eq_true rfl) dL_clockOf_8 ?_
  refine r_goto (tgt := 18) hX dL_clockOf_11 (by decide) ?_
  refine r_iconst (v := 0) hX dL_clockOf_18 (by decide) ?_
  exact r_iret hX hE dL_clockOf_19 (Nat.le_of_ble_eq_true rfl) (Nat.le_of_ble_eq_true rfl) ⟨_, K9, _, _, hK9, rfl, rfl⟩
theorem dL_strike_0 : decode cL_strike 0 = .ok (.aload_n 3, 1) := by decide +kernel
theorem dL_strike_1 : decode cL_strike 1 = .ok (.aload_n 0, 1) := by decide +kernel
theorem dL_strike_2 : decode cL_strike 2 = .ok (.iload_n 1, 1) := by decide +kernel
theorem dL_strike_3 : decode cL_strike 3 = .ok (.iload_n 2, 1) := by decide +kernel
theorem dL_strike_4 : decode cL_strike 4 = .ok (.invokevirtual 105, 3) := by decide +kernel
theorem dL_strike_7 : decode cL_strike 7 = .ok (.i2l, 1) := by decide +kernel
theorem dL_strike_8 : decode cL_strike 8 = .ok (.putfield 13, 3) := by decide +kernel
theorem dL_strike_11 : decode cL_strike 11 = .ok (.goto 7, 3) := by decide +kernel
theorem dL_strike_14 : decode cL_strike 14 = .ok (.astore 4, 2) := by decide +kernel
theorem dL_strike_16 : decode cL_strike 16 = .ok (.iconst 1, 1) := by decide +kernel
theorem dL_strike_17 : decode cL_strike 17 = .ok (.ireturn, 1) := by decide +kernel
theorem dL_strike_18 : decode cL_strike 18 = .ok (.iconst 0, 1) := by decide +kernel
theorem dL_strike_19 : decode cL_strike 19 = .ok (.ireturn, 1) := by decide +kernel
set_option maxHeartbeats 1000000 in
theorem c_L_strike (ad ae : Nat → Nat) (cs : ClassId × ClassId × ClassId) (K : mK) (J : mJ) (rest : va_W) (ao : Nat) (n0 : Int64) (s0 : Value) (p0 : Int32) (p1 : Int32) : mCw (mTy cs) yL_strike cL_strike 5 (some .int) [(0, 11, 14, 19)] ⟨8, 2, 12, 127⟩ [.ref (ad 0), .int p0, .int p1, .ref ao] (mRw ad ae cs K J ((ao, .inr (4, [.long n0, s0])) :: rest)) (fun v ws' => ∃ (r : Int32) (K' : mK) (n1 : Int64) (s1 : Value), K'.1 = K.1 ∧ v = some (.int r) ∧ ws' = mRw ad ae cs K' J ((ao, .inr (4, [.long n1, s1])) :: rest)) := by
  refine mCw.of (by decide +kernel) (Nat.le_of_ble_eq_true rfl) (fun X hX hg hE => ?_)
  replace hX : mOK X RL cL_strike 5 ⟨8, 2, 12, 127⟩ [(0, 11, 14, 19)] (mTy cs) := hX
  refine r_aload_n hX dL_strike_0 rfl rfl ?_
  refine r_aload_n hX dL_strike_1 rfl rfl ?_
  refine r_iload_n hX dL_strike_2 rfl rfl ?_
  refine r_iload_n hX dL_strike_3 rfl rfl ?_
  have kx : ∀ (E : String) (ws9 : va_W), mTh [xI] (mRw ad ae cs K J ((ao, .inr (4, [.long n0, s0])) :: rest)) E ws9 → mT X 4 [(0, some (.ref (ad 0))), (1, some (.int p0)), (2, some (.int p1)), (3, some (.ref ao))] [.ref ao] ws9 (0 + 2) (0 + 12) E := by
    intro E ws9 z
    obtain ⟨zE, zw⟩ := z
    subst zw
    obtain rfl := List.mem_singleton.mp zE
    refine r_catch1 hX rfl (by decide) kl_L_19 kca_I (fun q => ?_)
    refine r_astore hX dL_strike_14 (by decide) rfl ?_
    refine r_iconst (v := 1) hX dL_strike_16 (by decide) ?_
    exact r_iret hX hE dL_strike_17 (Nat.le_of_ble_eq_true rfl) (Nat.le_of_ble_eq_true rfl) ⟨_, K, _, _, rfl, rfl, rfl⟩
  refine r_callV hX (c_X2_strike ad cs K _ _ _) kv_L_105 0 rfl rfl rfl rfl (Nat.le_of_ble_eq_true rfl) ⟨(Nat.le_of_ble_eq_true rfl), (Nat.le_of_ble_eq_true rfl)⟩ ⟨(Nat.le_of_ble_eq_true rfl), (Nat.le_of_ble_eq_true rfl)⟩ dL_strike_4 kx (fun v9 ws9 h9 => ?_)
  obtain ⟨r, K9, hK9, rfl, hw9⟩ := h9
  subst ws9
  dsimp only [mPush]
  refine r_i2l hX dL_strike_7 ?_
  refine r_putN hX kg_L_13 21 rfl rfl rfl rfl (Nat.le_of_ble_eq_true rfl) dL_strike_8 ?_
  refine r_goto (tgt := 18) hX dL_strike_11 (by decide) ?_
  refine r_iconst (v := 0) hX dL_strike_18 (by decide) ?_
  exact r_iret hX hE dL_strike_19 (Nat.le_of_ble_eq_true rfl) (Nat.le_of_ble_eq_true rfl) ⟨_, K9, _, _, hK9, rfl, rfl⟩
theorem dL_moveClock_0 : decode cL_moveClock 0 = .ok (.aload 5, 2) := by decide +kernel
theorem dL_moveClock_2 : decode cL_moveClock 2 = .ok (.aload_n 0, 1) := by decide +kernel
theorem dL_moveClock_3 : decode cL_moveClock 3 = .ok (.iload_n 1, 1) := by decide +kernel
theorem dL_moveClock_4 : decode cL_moveClock 4 = .ok (.iload_n 2, 1) := by decide +kernel
theorem dL_moveClock_5 : decode cL_moveClock 5 = .ok (.iload_n 3, 1) := by decide +kernel
theorem dL_moveClock_6 : decode cL_moveClock 6 = .ok (.iload 4, 2) := by decide +kernel
theorem dL_moveClock_8 : decode cL_moveClock 8 = .ok (.invokevirtual 108, 3) := by decide +kernel
theorem dL_moveClock_11 : decode cL_moveClock 11 = .ok (.i2l, 1) := by decide +kernel
theorem dL_moveClock_12 : decode cL_moveClock 12 = .ok (.putfield 13, 3) := by decide +kernel
theorem dL_moveClock_15 : decode cL_moveClock 15 = .ok (.goto 11, 3) := by decide +kernel
theorem dL_moveClock_18 : decode cL_moveClock 18 = .ok (.astore 6, 2) := by decide +kernel
theorem dL_moveClock_20 : decode cL_moveClock 20 = .ok (.iconst 1, 1) := by decide +kernel
theorem dL_moveClock_21 : decode cL_moveClock 21 = .ok (.ireturn, 1) := by decide +kernel
theorem dL_moveClock_22 : decode cL_moveClock 22 = .ok (.astore 6, 2) := by decide +kernel
theorem dL_moveClock_24 : decode cL_moveClock 24 = .ok (.iconst 2, 1) := by decide +kernel
theorem dL_moveClock_25 : decode cL_moveClock 25 = .ok (.ireturn, 1) := by decide +kernel
theorem dL_moveClock_26 : decode cL_moveClock 26 = .ok (.iconst 0, 1) := by decide +kernel
theorem dL_moveClock_27 : decode cL_moveClock 27 = .ok (.ireturn, 1) := by decide +kernel
set_option maxHeartbeats 1000000 in
theorem c_L_moveClock (ad ae : Nat → Nat) (cs : ClassId × ClassId × ClassId) (K : mK) (J : mJ) (rest : va_W) (ao : Nat) (n0 : Int64) (s0 : Value) (p0 : Int32) (p1 : Int32) (p2 : Int32) (p3 : Int32) : mCw (mTy cs) yL_moveClock cL_moveClock 7 (some .int) [(0, 15, 18, 19), (0, 15, 22, 21)] ⟨8, 2, 12, 131⟩ [.ref (ad 0), .int p0, .int p1, .int p2, .int p3, .ref ao] (mRw ad ae cs K J ((ao, .inr (4, [.long n0, s0])) :: rest)) (fun v ws' => ∃ (r : Int32) (K' : mK) (n1 : Int64) (s1 : Value), K'.1 = K.1 ∧ v = some (.int r) ∧ ws' = mRw ad ae cs K' J ((ao, .inr (4, [.long n1, s1])) :: rest)) := by
  refine mCw.of (by decide +kernel) (Nat.le_of_ble_eq_true rfl) (fun X hX hg hE => ?_)
  replace hX : mOK X RL cL_moveClock 7 ⟨8, 2, 12, 131⟩ [(0, 15, 18, 19), (0, 15, 22, 21)] (mTy cs) := hX
  refine r_aload hX dL_moveClock_0 rfl ?_
  refine r_aload_n hX dL_moveClock_2 rfl rfl ?_
  refine r_iload_n hX dL_moveClock_3 rfl rfl ?_
  refine r_iload_n hX dL_moveClock_4 rfl rfl ?_
  refine r_iload_n hX dL_moveClock_5 rfl rfl ?_
  refine r_iload hX dL_moveClock_6 rfl ?_
  have kx : ∀ (E : String) (ws9 : va_W), mTh [xI, xA] (mRw ad ae cs K J ((ao, .inr (4, [.long n0, s0])) :: rest)) E ws9 → mT X 8 [(0, some (.ref (ad 0))), (1, some (.int p0)), (2, some (.int p1)), (3, some (.int p2)), (4, some (.int p3)), (5, some (.ref ao))] [.ref ao] ws9 (0 + 2) (0 + 12) E := by
    intro E ws9 z
    obtain ⟨zE, zw⟩ := z
    subst zw
    rcases List.mem_cons.mp zE with rfl | zE
    · refine r_catch1 hX rfl (by decide) kl_L_19 kca_I (fun q => ?_)
      refine r_astore hX dL_moveClock_18 (by decide) rfl ?_
      refine r_iconst (v := 1) hX dL_moveClock_20 (by decide) ?_
      exact r_iret hX hE dL_moveClock_21 (Nat.le_of_ble_eq_true rfl) (Nat.le_of_ble_eq_true rfl) ⟨_, K, _, _, rfl, rfl, rfl⟩
    · obtain rfl := List.mem_singleton.mp zE
      refine r_catch2 hX hg (by decide) kl_L_19 rfl (by decide) kl_L_21 (fun q => ?_)
      refine r_astore hX dL_moveClock_22 (by decide) rfl ?_
      refine r_iconst (v := 2) hX dL_moveClock_24 (by decide) ?_
      exact r_iret hX hE dL_moveClock_25 (Nat.le_of_ble_eq_true rfl) (Nat.le_of_ble_eq_true rfl) ⟨_, K, _, _, rfl, rfl, rfl⟩
  refine r_callV hX (c_X2_moveClock ad cs K _ _ _ _ _) kv_L_108 0 rfl rfl rfl rfl (Nat.le_of_ble_eq_true rfl) ⟨(Nat.le_of_ble_eq_true rfl), (Nat.le_of_ble_eq_true rfl)⟩ ⟨(Nat.le_of_ble_eq_true rfl), (Nat.le_of_ble_eq_true rfl)⟩ dL_moveClock_8 kx (fun v9 ws9 h9 => ?_)
  obtain ⟨r, K9, hK9, rfl, hw9⟩ := h9
  subst ws9
  dsimp only [mPush]
  refine r_i2l hX dL_moveClock_11 ?_
  refine r_putN hX kg_L_13 21 rfl rfl rfl rfl (Nat.le_of_ble_eq_true rfl) dL_moveClock_12 ?_
  refine r_goto (tgt := 26) hX dL_moveClock_15 (by decide) ?_
  refine r_iconst (v := 0) hX dL_moveClock_26 (by decide) ?_
  exact r_iret hX hE dL_moveClock_27 (Nat.le_of_ble_eq_true rfl) (Nat.le_of_ble_eq_true rfl) ⟨_, K9, _, _, hK9, rfl, rfl⟩
theorem dL_anewClock_0 : decode cL_anewClock 0 = .ok (.aload 4, 2) := by decide +kernel
theorem dL_anewClock_2 : decode cL_anewClock 2 = .ok (.aload_n 0, 1) := by decide +kernel
theorem dL_anewClock_3 : decode cL_anewClock 3 = .ok (.iload_n 1, 1) := by decide +kernel
theorem dL_anewClock_4 : decode cL_anewClock 4 = .ok (.iload_n 2, 1) := by decide +kernel
theorem dL_anewClock_5 : decode cL_anewClock 5 = .ok (.iload_n 3, 1) := by decide +kernel
theorem dL_anewClock_6 : decode cL_anewClock 6 = .ok (.invokevirtual 111, 3) := by decide +kernel
theorem dL_anewClock_9 : decode cL_anewClock 9 = .ok (.i2l, 1) := by decide +kernel
theorem dL_anewClock_10 : decode cL_anewClock 10 = .ok (.putfield 13, 3) := by decide +kernel
theorem dL_anewClock_13 : decode cL_anewClock 13 = .ok (.goto 7, 3) := by decide +kernel
theorem dL_anewClock_16 : decode cL_anewClock 16 = .ok (.astore 5, 2) := by decide +kernel
theorem dL_anewClock_18 : decode cL_anewClock 18 = .ok (.iconst 1, 1) := by decide +kernel
theorem dL_anewClock_19 : decode cL_anewClock 19 = .ok (.ireturn, 1) := by decide +kernel
theorem dL_anewClock_20 : decode cL_anewClock 20 = .ok (.iconst 0, 1) := by decide +kernel
theorem dL_anewClock_21 : decode cL_anewClock 21 = .ok (.ireturn, 1) := by decide +kernel
set_option maxHeartbeats 1000000 in
theorem c_L_anewClock (ad ae : Nat → Nat) (cs : ClassId × ClassId × ClassId) (K : mK) (J : mJ) (rest : va_W) (ao : Nat) (n0 : Int64) (s0 : Value) (p0 : Int32) (p1 : Int32) (p2 : Int32) : mCw (mTy cs) yL_anewClock cL_anewClock 6 (some .int) [(0, 13, 16, 19)] ⟨9, 2, 12, 151⟩ [.ref (ad 0), .int p0, .int p1, .int p2, .ref ao] (mRw ad ae cs K J ((ao, .inr (4, [.long n0, s0])) :: rest)) (fun v ws' => ∃ (r : Int32) (K' : mK) (n1 : Int64) (s1 : Value), K'.1 = K.1 ∧ v = some (.int r) ∧ ws' = mRw ad ae cs K' J ((ao, .inr (4, [.long n1, s1])) :: rest)) := by
  refine mCw.of (by decide +kernel) (Nat.le_of_ble_eq_true rfl) (fun X hX hg hE => ?_)
  replace hX : mOK X RL cL_anewClock 6 ⟨9, 2, 12, 151⟩ [(0, 13, 16, 19)] (mTy cs) := hX
  refine r_aload hX dL_anewClock_0 rfl ?_
  refine r_aload_n hX dL_anewClock_2 rfl rfl ?_
  refine r_iload_n hX dL_anewClock_3 rfl rfl ?_
  refine r_iload_n hX dL_anewClock_4 rfl rfl ?_
  refine r_iload_n hX dL_anewClock_5 rfl rfl ?_
  have kx : ∀ (E : String) (ws9 : va_W), mTh [xI] (mRw ad ae cs K J ((ao, .inr (4, [.long n0, s0])) :: rest)) E ws9 → mT X 6 [(0, some (.ref (ad 0))), (1, some (.int p0)), (2, some (.int p1)), (3, some (.int p2)), (4, some (.ref ao))] [.ref ao] ws9 (0 + 2) (0 + 12) E := by
    intro E ws9 z
    obtain ⟨zE, zw⟩ := z
    subst zw
    obtain rfl := List.mem_singleton.mp zE
    refine r_catch1 hX rfl (by decide) kl_L_19 kca_I (fun q => ?_)
    refine r_astore hX dL_anewClock_16 (by decide) rfl ?_
    refine r_iconst (v := 1) hX dL_anewClock_18 (by decide) ?_
    exact r_iret hX hE dL_anewClock_19 (Nat.le_of_ble_eq_true rfl) (Nat.le_of_ble_eq_true rfl) ⟨_, K, _, _, rfl, rfl, rfl⟩
  refine r_callV hX (c_X2_anewClock ad cs K _ _ _ _) kv_L_111 0 rfl rfl rfl rfl (Nat.le_of_ble_eq_true rfl) ⟨(Nat.le_of_ble_eq_true rfl), (Nat.le_of_ble_eq_true rfl)⟩ ⟨(Nat.le_of_ble_eq_true rfl), (Nat.le_of_ble_eq_true rfl)⟩ dL_anewClock_6 kx (fun v9 ws9 h9 => ?_)
  obtain ⟨r, K9, hK9, rfl, hw9⟩ := h9
  subst ws9
  dsimp only [mPush]
  refine r_i2l hX dL_anewClock_9 ?_
  refine r_putN hX kg_L_13 21 rfl rfl rfl rfl (Nat.le_of_ble_eq_true rfl) dL_anewClock_10 ?_
  refine r_goto (tgt := 20) hX dL_anewClock_13 (by decide) ?_
  refine r_iconst (v := 0) hX dL_anewClock_20 (by decide) ?_
  exact r_iret hX hE dL_anewClock_21 (Nat.le_of_ble_eq_true rfl) (Nat.le_of_ble_eq_true rfl) ⟨_, K9, _, _, hK9, rfl, rfl⟩
theorem dL_copyClock_0 : decode cL_copyClock 0 = .ok (.aload_n 3, 1) := by decide +kernel
theorem dL_copyClock_1 : decode cL_copyClock 1 = .ok (.aload_n 0, 1) := by decide +kernel
theorem dL_copyClock_2 : decode cL_copyClock 2 = .ok (.iload_n 1, 1) := by decide +kernel
theorem dL_copyClock_3 : decode cL_copyClock 3 = .ok (.iload_n 2, 1) := by decide +kernel
theorem dL_copyClock_4 : decode cL_copyClock 4 = .ok (.invokevirtual 114, 3) := by decide +kernel
theorem dL_copyClock_7 : decode cL_copyClock 7 = .ok (.i2l, 1) := by decide +kernel
theorem dL_copyClock_8 : decode cL_copyClock 8 = .ok (.putfield 13, 3) := by decide +kernel
theorem dL_copyClock_11 : decode cL_copyClock 11 = .ok (.goto 7, 3) := by decide +kernel
theorem dL_copyClock_14 : decode cL_copyClock 14 = .ok (.astore 4, 2) := by decide +kernel
theorem dL_copyClock_16 : decode cL_copyClock 16 = .ok (.iconst 1, 1) := by decide +kernel
theorem dL_copyClock_17 : decode cL_copyClock 17 = .ok (.ireturn, 1) := by decide +kernel
theorem dL_copyClock_18 : decode cL_copyClock 18 = .ok (.iconst 0, 1) := by decide +kernel
theorem dL_copyClock_19 : decode cL_copyClock 19 = .ok (.ireturn, 1) := by decide +kernel
set_option maxHeartbeats 1000000 in
theorem c_L_copyClock (ad ae : Nat → Nat) (cs : ClassId × ClassId × ClassId) (K : mK) (J : mJ) (rest : va_W) (ao : Nat) (n0 : Int64) (s0 : Value) (p0 : Int32) (p1 : Int32) : mCw (mTy cs) yL_copyClock cL_copyClock 5 (some .int) [(0, 11, 14, 19)] ⟨8, 2, 12, 127⟩ [.ref (ad 0), .int p0, .int p1, .ref ao] (mRw ad ae cs K J ((ao, .inr (4, [.long n0, s0])) :: rest)) (fun v ws' => ∃ (r : Int32) (K' : mK) (n1 : Int64) (s1 : Value), K'.1 = K.1 ∧ v = some (.int r) ∧ ws' = mRw ad ae cs K' J ((ao, .inr (4, [.long n1, s1])) :: rest)) := by
  refine mCw.of (by decide +kernel) (Nat.le_of_ble_eq_true rfl) (fun X hX hg hE => ?_)
  replace hX : mOK X RL cL_copyClock 5 ⟨8, 2, 12, 127⟩ [(0, 11, 14, 19)] (mTy cs) := hX
  refine r_aload_n hX dL_copyClock_0 rfl rfl ?_
  refine r_aload_n hX dL_copyClock_1 rfl rfl ?_
  refine r_iload_n hX dL_copyClock_2 rfl rfl ?_
  refine r_iload_n hX dL_copyClock_3 rfl rfl ?_
  have kx : ∀ (E : String) (ws9 : va_W), mTh [xI] (mRw ad ae cs K J ((ao, .inr (4, [.long n0, s0])) :: rest)) E ws9 → mT X 4 [(0, some (.ref (ad 0))), (1, some (.int p0)), (2, some (.int p1)), (3, some (.ref ao))] [.ref ao] ws9 (0 + 2) (0 + 12) E := by
    intro E ws9 z
    obtain ⟨zE, zw⟩ := z
    subst zw
    obtain rfl := List.mem_singleton.mp zE
    refine r_catch1 hX rfl (by decide) kl_L_19 kca_I (fun q => ?_)
    refine r_astore hX dL_copyClock_14 (by decide) rfl ?_
    refine r_iconst (v := 1) hX dL_copyClock_16 (by decide) ?_
    exact r_iret hX hE dL_copyClock_17 (Nat.le_of_ble_eq_true rfl) (Nat.le_of_ble_eq_true rfl) ⟨_, K, _, _, rfl, rfl, rfl⟩
  refine r_callV hX (c_X2_copyClock ad cs K _ _ _) kv_L_114 0 rfl rfl rfl rfl (Nat.le_of_ble_eq_true rfl) ⟨(Nat.le_of_ble_eq_true rfl), (Nat.le_of_ble_eq_true rfl)⟩ ⟨(Nat.le_of_ble_eq_true rfl), (Nat.le_of_ble_eq_true rfl)⟩ dL_copyClock_4 kx (fun v9 ws9 h9 => ?_)
  obtain ⟨r, K9, hK9, rfl, hw9⟩ := h9
  subst ws9
  dsimp only [mPush]
  refine r_i2l hX dL_copyClock_7 ?_
  refine r_putN hX kg_L_13 21 rfl rfl rfl rfl (Nat.le_of_ble_eq_true rfl) dL_copyClock_8 ?_
  refine r_goto (tgt := 18) hX dL_copyClock_11 (by decide) ?_
  refine r_iconst (v := 0) hX dL_copyClock_18 (by decide) ?_
  exact r_iret hX hE dL_copyClock_19 (Nat.le_of_ble_eq_true rfl) (Nat.le_of_ble_eq_true rfl) ⟨_, K9, _, _, hK9, rfl, rfl⟩
theorem dL_ofClock_0 : decode cL_ofClock 0 = .ok (.aload_n 3, 1) := by decide +kernel
theorem dL_ofClock_1 : decode cL_ofClock 1 = .ok (.aload_n 0, 1) := by decide +kernel
theorem dL_ofClock_2 : decode cL_ofClock 2 = .ok (.iload_n 1, 1) := by decide +kernel
theorem dL_ofClock_3 : decode cL_ofClock 3 = .ok (.iload_n 2, 1) := by decide +kernel
theorem dL_ofClock_4 : decode cL_ofClock 4 = .ok (.invokevirtual 117, 3) := by decide +kernel
theorem dL_ofClock_7 : decode cL_ofClock 7 = .ok (.i2l, 1) := by decide +kernel
theorem dL_ofClock_8 : decode cL_ofClock 8 = .ok (.putfield 13, 3) := by decide +kernel
theorem dL_ofClock_11 : decode cL_ofClock 11 = .ok (.goto 11, 3) := by decide +kernel
theorem dL_ofClock_14 : decode cL_ofClock 14 = .ok (.astore 4, 2) := by decide +kernel
theorem dL_ofClock_16 : decode cL_ofClock 16 = .ok (.iconst 1, 1) := by decide +kernel
theorem dL_ofClock_17 : decode cL_ofClock 17 = .ok (.ireturn, 1) := by decide +kernel
theorem dL_ofClock_18 : decode cL_ofClock 18 = .ok (.astore 4, 2) := by decide +kernel
theorem dL_ofClock_20 : decode cL_ofClock 20 = .ok (.iconst 2, 1) := by decide +kernel
theorem dL_ofClock_21 : decode cL_ofClock 21 = .ok (.ireturn, 1) := by decide +kernel
theorem dL_ofClock_22 : decode cL_ofClock 22 = .ok (.iconst 0, 1) := by decide +kernel
theorem dL_ofClock_23 : decode cL_ofClock 23 = .ok (.ireturn, 1) := by decide +kernel
set_option maxHeartbeats 1000000 in
theorem c_L_ofClock (ad ae : Nat → Nat) (cs : ClassId × ClassId × ClassId) (K : mK) (J : mJ) (rest : va_W) (ao : Nat) (n0 : Int64) (s0 : Value) (p0 : Int32) (p1 : Int32) : mCw (mTy cs) yL_ofClock cL_ofClock 5 (some .int) [(0, 11, 14, 19), (0, 11, 18, 21)] ⟨8, 2, 12, 127⟩ [.ref (ad 0), .int p0, .int p1, .ref ao] (mRw ad ae cs K J ((ao, .inr (4, [.long n0, s0])) :: rest)) (fun v ws' => ∃ (r : Int32) (K' : mK) (n1 : Int64) (s1 : Value), K'.1 = K.1 ∧ v = some (.int r) ∧ ws' = mRw ad ae cs K' J ((ao, .inr (4, [.long n1, s1])) :: rest)) := by
  refine mCw.of (by decide +kernel) (Nat.le_of_ble_eq_true rfl) (fun X hX hg hE => ?_)
  replace hX : mOK X RL cL_ofClock 5 ⟨8, 2, 12, 127⟩ [(0, 11, 14, 19), (0, 11, 18, 21)] (mTy cs) := hX
  refine r_aload_n hX dL_ofClock_0 rfl rfl ?_
  refine r_aload_n hX dL_ofClock_1 rfl rfl ?_
  refine r_iload_n hX dL_ofClock_2 rfl rfl ?_
  refine r_iload_n hX dL_ofClock_3 rfl rfl ?_
  have kx : ∀ (E : String) (ws9 : va_W), mTh [xI, xA] (mRw ad ae cs K J ((ao, .inr (4, [.long n0, s0])) :: rest)) E ws9 → mT X 4 [(0, some (.ref (ad 0))), (1, some (.int p0)), (2, some (.int p1)), (3, some (.ref ao))] [.ref ao] ws9 (0 + 2) (0 + 12) E := by
    intro E ws9 z
    obtain ⟨zE, zw⟩ := z
    subst zw
    rcases List.mem_cons.mp zE with rfl | zE
    · refine r_catch1 hX rfl (by decide) kl_L_19 kca_I (fun q => ?_)
      refine r_astore hX dL_ofClock_14 (by decide) rfl ?_
      refine r_iconst (v := 1) hX dL_ofClock_16 (by decide) ?_
      exact r_iret hX hE dL_ofClock_17 (Nat.le_of_ble_eq_true rfl) (Nat.le_of_ble_eq_true rfl) ⟨_, K, _, _, rfl, rfl, rfl⟩
    · obtain rfl := List.mem_singleton.mp zE
      refine r_catch2 hX hg (by decide) kl_L_19 rfl (by decide) kl_L_21 (fun q => ?_)
      refine r_astore hX dL_ofClock_18 (by decide) rfl ?_
      refine r_iconst (v := 2) hX dL_ofClock_20 (by decide) ?_
      exact r_iret hX hE dL_ofClock_21 (Nat.le_of_ble_eq_true rfl) (Nat.le_of_ble_eq_true rfl) ⟨_, K, _, _, rfl, rfl, rfl⟩
  refine r_callV hX (c_X2_ofClock ad cs K _ _ _) kv_L_117 0 rfl rfl rfl rfl (Nat.le_of_ble_eq_true rfl) ⟨(Nat.le_of_ble_eq_true rfl), (Nat.le_of_ble_eq_true rfl)⟩ ⟨(Nat.le_of_ble_eq_true rfl), (Nat.le_of_ble_eq_true rfl)⟩ dL_ofClock_4 kx (fun v9 ws9 h9 => ?_)
  obtain ⟨r, K9, hK9, rfl, hw9⟩ := h9
  subst ws9
  dsimp only [mPush]
  refine r_i2l hX dL_ofClock_7 ?_
  refine r_putN hX kg_L_13 21 rfl rfl rfl rfl (Nat.le_of_ble_eq_true rfl) dL_ofClock_8 ?_
  refine r_goto (tgt := 22) hX dL_ofClock_11 (by decide) ?_
  refine r_iconst (v := 0) hX dL_ofClock_22 (by decide) ?_
  exact r_iret hX hE dL_ofClock_23 (Nat.le_of_ble_eq_true rfl) (Nat.le_of_ble_eq_true rfl) ⟨_, K9, _, _, hK9, rfl, rfl⟩
theorem dL_orderClock_0 : decode cL_orderClock 0 = .ok (.aload_n 3, 1) := by decide +kernel
theorem dL_orderClock_1 : decode cL_orderClock 1 = .ok (.aload_n 0, 1) := by decide +kernel
theorem dL_orderClock_2 : decode cL_orderClock 2 = .ok (.iload_n 1, 1) := by decide +kernel
theorem dL_orderClock_3 : decode cL_orderClock 3 = .ok (.iload_n 2, 1) := by decide +kernel
theorem dL_orderClock_4 : decode cL_orderClock 4 = .ok (.invokevirtual 120, 3) := by decide +kernel
theorem dL_orderClock_7 : decode cL_orderClock 7 = .ok (.i2l, 1) := by decide +kernel
theorem dL_orderClock_8 : decode cL_orderClock 8 = .ok (.putfield 13, 3) := by decide +kernel
theorem dL_orderClock_11 : decode cL_orderClock 11 = .ok (.goto 7, 3) := by decide +kernel
theorem dL_orderClock_14 : decode cL_orderClock 14 = .ok (.astore 4, 2) := by decide +kernel
theorem dL_orderClock_16 : decode cL_orderClock 16 = .ok (.iconst 1, 1) := by decide +kernel
theorem dL_orderClock_17 : decode cL_orderClock 17 = .ok (.ireturn, 1) := by decide +kernel
theorem dL_orderClock_18 : decode cL_orderClock 18 = .ok (.iconst 0, 1) := by decide +kernel
theorem dL_orderClock_19 : decode cL_orderClock 19 = .ok (.ireturn, 1) := by decide +kernel
set_option maxHeartbeats 1000000 in
theorem c_L_orderClock (ad ae : Nat → Nat) (cs : ClassId × ClassId × ClassId) (K : mK) (J : mJ) (rest : va_W) (ao : Nat) (n0 : Int64) (s0 : Value) (p0 : Int32) (p1 : Int32) : mCw (mTy cs) yL_orderClock cL_orderClock 5 (some .int) [(0, 11, 14, 19)] ⟨8, 2, 12, 125⟩ [.ref (ad 0), .int p0, .int p1, .ref ao] (mRw ad ae cs K J ((ao, .inr (4, [.long n0, s0])) :: rest)) (fun v ws' => ∃ (r : Int32) (K' : mK) (n1 : Int64) (s1 : Value), K'.1 = K.1 ∧ v = some (.int r) ∧ ws' = mRw ad ae cs K' J ((ao, .inr (4, [.long n1, s1])) :: rest)) := by
  refine mCw.of (by decide +kernel) (Nat.le_of_ble_eq_true rfl) (fun X hX hg hE => ?_)
  replace hX : mOK X RL cL_orderClock 5 ⟨8, 2, 12, 125⟩ [(0, 11, 14, 19)] (mTy cs) := hX
  refine r_aload_n hX dL_orderClock_0 rfl rfl ?_
  refine r_aload_n hX dL_orderClock_1 rfl rfl ?_
  refine r_iload_n hX dL_orderClock_2 rfl rfl ?_
  refine r_iload_n hX dL_orderClock_3 rfl rfl ?_
  have kx : ∀ (E : String) (ws9 : va_W), mTh [xI] (mRw ad ae cs K J ((ao, .inr (4, [.long n0, s0])) :: rest)) E ws9 → mT X 4 [(0, some (.ref (ad 0))), (1, some (.int p0)), (2, some (.int p1)), (3, some (.ref ao))] [.ref ao] ws9 (0 + 2) (0 + 12) E := by
    intro E ws9 z
    obtain ⟨zE, zw⟩ := z
    subst zw
    obtain rfl := List.mem_singleton.mp zE
    refine r_catch1 hX rfl (by decide) kl_L_19 kca_I (fun q => ?_)
    refine r_astore hX dL_orderClock_14 (by decide) rfl ?_
    refine r_iconst (v := 1) hX dL_orderClock_16 (by decide) ?_
    exact r_iret hX hE dL_orderClock_17 (Nat.le_of_ble_eq_true rfl) (Nat.le_of_ble_eq_true rfl) ⟨_, K, _, _, rfl, rfl, rfl⟩
  refine r_callV hX (c_X2_orderClock ad cs K _ _ _) kv_L_120 0 rfl rfl rfl rfl (Nat.le_of_ble_eq_true rfl) ⟨(Nat.le_of_ble_eq_true rfl), (Nat.le_of_ble_eq_true rfl)⟩ ⟨(Nat.le_of_ble_eq_true rfl), (Nat.le_of_ble_eq_true rfl)⟩ dL_orderClock_4 kx (fun v9 ws9 h9 => ?_)
  obtain ⟨r, K9, hK9, rfl, hw9⟩ := h9
  subst ws9
  dsimp only [mPush]
  refine r_i2l hX dL_orderClock_7 ?_
  refine r_putN hX kg_L_13 21 rfl rfl rfl rfl (Nat.le_of_ble_eq_true rfl) dL_orderClock_8 ?_
  refine r_goto (tgt := 18) hX dL_orderClock_11 (by decide) ?_
  refine r_iconst (v := 0) hX dL_orderClock_18 (by decide) ?_
  exact r_iret hX hE dL_orderClock_19 (Nat.le_of_ble_eq_true rfl) (Nat.le_of_ble_eq_true rfl) ⟨_, K9, _, _, hK9, rfl, rfl⟩
theorem dL_isClock_0 : decode cL_isClock 0 = .ok (.aload 4, 2) := by decide +kernel
theorem dL_isClock_2 : decode cL_isClock 2 = .ok (.aload_n 0, 1) := by decide +kernel
theorem dL_isClock_3 : decode cL_isClock 3 = .ok (.iload_n 1, 1) := by decide +kernel
theorem dL_isClock_4 : decode cL_isClock 4 = .ok (.iload_n 2, 1) := by decide +kernel
theorem dL_isClock_5 : decode cL_isClock 5 = .ok (.iload_n 3, 1) := by decide +kernel
theorem dL_isClock_6 : decode cL_isClock 6 = .ok (.invokevirtual 123, 3) := by decide +kernel
theorem dL_isClock_9 : decode cL_isClock 9 = .ok (.ifCond .eq 7, 3) := by decide +kernel
theorem dL_isClock_12 : decode cL_isClock 12 = .ok (.lconst 1, 1) := by decide +kernel
theorem dL_isClock_13 : decode cL_isClock 13 = .ok (.goto 4, 3) := by decide +kernel
theorem dL_isClock_16 : decode cL_isClock 16 = .ok (.lconst 0, 1) := by decide +kernel
theorem dL_isClock_17 : decode cL_isClock 17 = .ok (.putfield 13, 3) := by decide +kernel
theorem dL_isClock_20 : decode cL_isClock 20 = .ok (.goto 11, 3) := by decide +kernel
theorem dL_isClock_23 : decode cL_isClock 23 = .ok (.astore 5, 2) := by decide +kernel
theorem dL_isClock_25 : decode cL_isClock 25 = .ok (.iconst 1, 1) := by decide +kernel
theorem dL_isClock_26 : decode cL_isClock 26 = .ok (.ireturn, 1) := by decide +kernel
theorem dL_isClock_27 : decode cL_isClock 27 = .ok (.astore 5, 2) := by decide +kernel
theorem dL_isClock_29 : decode cL_isClock 29 = .ok (.iconst 2, 1) := by decide +kernel
theorem dL_isClock_30 : decode cL_isClock 30 = .ok (.ireturn, 1) := by decide +kernel
theorem dL_isClock_31 : decode cL_isClock 31 = .ok (.iconst 0, 1) := by decide +kernel
theorem dL_isClock_32 : decode cL_isClock 32 = .ok (.ireturn, 1) := by decide +kernel
set_option maxHeartbeats 1000000 in
theorem c_L_isClock (ad ae : Nat → Nat) (cs : ClassId × ClassId × ClassId) (K : mK) (J : mJ) (rest : va_W) (ao : Nat) (n0 : Int64) (s0 : Value) (p0 : Int32) (p1 : Int32) (p2 : Int32) : mCw (mTy cs) yL_isClock cL_isClock 6 (some .int) [(0, 20, 23, 19), (0, 20, 27, 21)] ⟨8, 3, 18, 129⟩ [.ref (ad 0), .int p0, .int p1, .int p2, .ref ao] (mRw ad ae cs K J ((ao, .inr (4, [.long n0, s0])) :: rest)) (fun v ws' => ∃ (r : Int32) (K' : mK) (n1 : Int64) (s1 : Value), K'.1 = K.1 ∧ v = some (.int r) ∧ ws' = mRw ad ae cs K' J ((ao, .inr (4, [.long n1, s1])) :: rest)) := by
  refine mCw.of (by decide +kernel) (Nat.le_of_ble_eq_true rfl) (fun X hX hg hE => ?_)
  replace hX : mOK X RL cL_isClock 6 ⟨8, 3, 18, 129⟩ [(0, 20, 23, 19), (0, 20, 27, 21)] (mTy cs) := hX
  refine r_aload hX dL_isClock_0 rfl ?_
  refine r_aload_n hX dL_isClock_2 rfl rfl ?_
  refine r_iload_n hX dL_isClock_3 rfl rfl ?_
  refine r_iload_n hX dL_isClock_4 rfl rfl ?_
  refine r_iload_n hX dL_isClock_5 rfl rfl ?_
  have kx : ∀ (E : String) (ws9 : va_W), mTh [xI, xA] (mRw ad ae cs K J ((ao, .inr (4, [.long n0, s0])) :: rest)) E ws9 → mT X 6 [(0, some (.ref (ad 0))), (1, some (.int p0)), (2, some (.int p1)), (3, some (.int p2)), (4, some (.ref ao))] [.ref ao] ws9 (0 + 3) (0 + 18) E := by
    intro E ws9 z
    obtain ⟨zE, zw⟩ := z
    subst zw
    rcases List.mem_cons.mp zE with rfl | zE
    · refine r_catch1 hX rfl (by decide) kl_L_19 kca_I (fun q => ?_)
      refine r_astore hX dL_isClock_23 (by decide) rfl ?_
      refine r_iconst (v := 1) hX dL_isClock_25 (by decide) ?_
      exact r_iret hX hE dL_isClock_26 (Nat.le_of_ble_eq_true rfl) (Nat.le_of_ble_eq_true rfl) ⟨_, K, _, _, rfl, rfl, rfl⟩
    · obtain rfl := List.mem_singleton.mp zE
      refine r_catch2 hX hg (by decide) kl_L_19 rfl (by decide) kl_L_21 (fun q => ?_)
      refine r_astore hX dL_isClock_27 (by decide) rfl ?_
      refine r_iconst (v := 2) hX dL_isClock_29 (by decide) ?_
      exact r_iret hX hE dL_isClock_30 (Nat.le_of_ble_eq_true rfl) (Nat.le_of_ble_eq_true rfl) ⟨_, K, _, _, rfl, rfl, rfl⟩
  refine r_callV hX (c_X2_isClock ad cs K _ _ _ _) kv_L_123 0 rfl rfl rfl rfl (Nat.le_of_ble_eq_true rfl) ⟨(Nat.le_of_ble_eq_true rfl), (Nat.le_of_ble_eq_true rfl)⟩ ⟨(Nat.le_of_ble_eq_true rfl), (Nat.le_of_ble_eq_true rfl)⟩ dL_isClock_6 kx (fun v9 ws9 h9 => ?_)
  obtain ⟨r, K9, br, hK9, rfl, hw9⟩ := h9
  subst ws9
  dsimp only [mPush]
  refine r_if_eq (tgt := 16) hX dL_isClock_9 (by decide) (fun _ => ?_) (fun _ => ?_)
  · refine r_lconst (v := 0) hX dL_isClock_16 (by decide) ?_
    refine r_putN hX kg_L_13 21 rfl rfl rfl rfl (Nat.le_of_ble_eq_true rfl) dL_isClock_17 ?_
    refine r_goto (tgt := 31) hX dL_isClock_20 (by decide) ?_
    refine r_iconst (v := 0) hX dL_isClock_31 (by decide) ?_
    exact r_iret hX hE dL_isClock_32 (Nat.le_of_ble_eq_true rfl) (Nat.le_of_ble_eq_true rfl) ⟨_, K9, _, _, hK9, rfl, rfl⟩
  · refine r_lconst (v := 1) hX dL_isClock_12 (by decide) ?_
    refine r_goto (tgt := 17) hX dL_isClock_13 (by decide) ?_
    refine r_putN hX kg_L_13 21 rfl rfl rfl rfl (Nat.le_of_ble_eq_true rfl) dL_isClock_17 ?_
    refine r_goto (tgt := 31) hX dL_isClock_20 (by decide) ?_
    refine r_iconst (v := 0) hX dL_isClock_31 (by decide) ?_
    exact r_iret hX hE dL_isClock_32 (Nat.le_of_ble_eq_true rfl) (Nat.le_of_ble_eq_true rfl) ⟨_, K9, _, _, hK9, rfl, rfl⟩
theorem dL_house_0 : decode cL_house 0 = .ok (.aload_n 2, 1) := by decide +kernel
theorem dL_house_1 : decode cL_house 1 = .ok (.aload_n 0, 1) := by decide +kernel
theorem dL_house_2 : decode cL_house 2 = .ok (.iload_n 1, 1) := by decide +kernel
theorem dL_house_3 : decode cL_house 3 = .ok (.invokevirtual 126, 3) := by decide +kernel
theorem dL_house_6 : decode cL_house 6 = .ok (.i2l, 1) := by decide +kernel
theorem dL_house_7 : decode cL_house 7 = .ok (.putfield 13, 3) := by decide +kernel
theorem dL_house_10 : decode cL_house 10 = .ok (.goto 6, 3) := by decide +kernel
theorem dL_house_13 : decode cL_house 13 = .ok (.astore_n 3, 1) := by decide +kernel
theorem dL_house_14 : decode cL_house 14 = .ok (.iconst 1, 1) := by decide +kernel
theorem dL_house_15 : decode cL_house 15 = .ok (.ireturn, 1) := by decide +kernel
theorem dL_house_16 : decode cL_house 16 = .ok (.iconst 0, 1) := by decide +kernel
theorem dL_house_17 : decode cL_house 17 = .ok (.ireturn, 1) := by decide +kernel
set_option maxHeartbeats 1000000 in
theorem c_L_house (ad ae : Nat → Nat) (cs : ClassId × ClassId × ClassId) (K : mK) (J : mJ) (rest : va_W) (ao : Nat) (n0 : Int64) (s0 : Value) (p0 : Int32) : mCw (mTy cs) yL_house cL_house 4 (some .int) [(0, 10, 13, 21)] ⟨8, 1, 6, 125⟩ [.ref (ad 0), .int p0, .ref ao] (mRw ad ae cs K J ((ao, .inr (4, [.long n0, s0])) :: rest)) (fun v ws' => ∃ (r : Int32) (K' : mK) (n1 : Int64) (s1 : Value), K'.1 = K.1 ∧ v = some (.int r) ∧ ws' = mRw ad ae cs K' J ((ao, .inr (4, [.long n1, s1])) :: rest)) := by
  refine mCw.of (by decide +kernel) (Nat.le_of_ble_eq_true rfl) (fun X hX hg hE => ?_)
  replace hX : mOK X RL cL_house 4 ⟨8, 1, 6, 125⟩ [(0, 10, 13, 21)] (mTy cs) := hX
  refine r_aload_n hX dL_house_0 rfl rfl ?_
  refine r_aload_n hX dL_house_1 rfl rfl ?_
  refine r_iload_n hX dL_house_2 rfl rfl ?_
  have kx : ∀ (E : String) (ws9 : va_W), mTh [xA] (mRw ad ae cs K J ((ao, .inr (4, [.long n0, s0])) :: rest)) E ws9 → mT X 3 [(0, some (.ref (ad 0))), (1, some (.int p0)), (2, some (.ref ao))] [.ref ao] ws9 (0 + 1) (0 + 6) E := by
    intro E ws9 z
    obtain ⟨zE, zw⟩ := z
    subst zw
    obtain rfl := List.mem_singleton.mp zE
    refine r_catch1 hX rfl (by decide) kl_L_21 kca_A (fun q => ?_)
    refine r_astore_n hX dL_house_13 rfl (by decide) rfl ?_
    refine r_iconst (v := 1) hX dL_house_14 (by decide) ?_
    exact r_iret hX hE dL_house_15 (Nat.le_of_ble_eq_true rfl) (Nat.le_of_ble_eq_true rfl) ⟨_, K, _, _, rfl, rfl, rfl⟩
  refine r_callV hX (c_X2_house ad cs K _ _) kv_L_126 0 rfl rfl rfl rfl (Nat.le_of_ble_eq_true rfl) ⟨(Nat.le_of_ble_eq_true rfl), (Nat.le_of_ble_eq_true rfl)⟩ ⟨(Nat.le_of_ble_eq_true rfl), (Nat.le_of_ble_eq_true rfl)⟩ dL_house_3 kx (fun v9 ws9 h9 => ?_)
  obtain ⟨r, K9, hK9, rfl, hw9⟩ := h9
  subst ws9
  dsimp only [mPush]
  refine r_i2l hX dL_house_6 ?_
  refine r_putN hX kg_L_13 21 rfl rfl rfl rfl (Nat.le_of_ble_eq_true rfl) dL_house_7 ?_
  refine r_goto (tgt := 16) hX dL_house_10 (by decide) ?_
  refine r_iconst (v := 0) hX dL_house_16 (by decide) ?_
  exact r_iret hX hE dL_house_17 (Nat.le_of_ble_eq_true rfl) (Nat.le_of_ble_eq_true rfl) ⟨_, K9, _, _, hK9, rfl, rfl⟩
