/-! The law's wrappers. (Rows by a program of this repository.) -/
theorem dL_move_0 : decode cL_move 0 = .ok (.aload 5, 2) := by decide +kernel
theorem dL_move_2 : decode cL_move 2 = .ok (.aload_n 0, 1) := by decide +kernel
theorem dL_move_3 : decode cL_move 3 = .ok (.iload_n 1, 1) := by decide +kernel
theorem dL_move_4 : decode cL_move 4 = .ok (.iload_n 2, 1) := by decide +kernel
theorem dL_move_5 : decode cL_move 5 = .ok (.iload_n 3, 1) := by decide +kernel
theorem dL_move_6 : decode cL_move 6 = .ok (.iload 4, 2) := by decide +kernel
theorem dL_move_8 : decode cL_move 8 = .ok (.invokevirtual 41, 3) := by decide +kernel
theorem dL_move_11 : decode cL_move 11 = .ok (.i2l, 1) := by decide +kernel
theorem dL_move_12 : decode cL_move 12 = .ok (.putfield 13, 3) := by decide +kernel
theorem dL_move_15 : decode cL_move 15 = .ok (.goto 11, 3) := by decide +kernel
theorem dL_move_18 : decode cL_move 18 = .ok (.astore 6, 2) := by decide +kernel
theorem dL_move_20 : decode cL_move 20 = .ok (.iconst 1, 1) := by decide +kernel
theorem dL_move_21 : decode cL_move 21 = .ok (.ireturn, 1) := by decide +kernel
theorem dL_move_22 : decode cL_move 22 = .ok (.astore 6, 2) := by decide +kernel
theorem dL_move_24 : decode cL_move 24 = .ok (.iconst 2, 1) := by decide +kernel
theorem dL_move_25 : decode cL_move 25 = .ok (.ireturn, 1) := by decide +kernel
theorem dL_move_26 : decode cL_move 26 = .ok (.iconst 0, 1) := by decide +kernel
theorem dL_move_27 : decode cL_move 27 = .ok (.ireturn, 1) := by decide +kernel
set_option maxHeartbeats 1000000 in
theorem c_L_move (ad ae : Nat → Nat) (cs : ClassId × ClassId × ClassId) (K : mK) (J : mJ) (rest : va_W) (ao : Nat) (n0 : Int64) (s0 : Value) (p0 : Int32) (p1 : Int32) (p2 : Int32) (p3 : Int32) : mCw (mTy cs) yL_move cL_move 7 (some .int) [(0, 15, 18, 19), (0, 15, 22, 21)] ⟨8, 2, 12, 130⟩ [.ref (ad 0), .int p0, .int p1, .int p2, .int p3, .ref ao] (mRw ad ae cs K J ((ao, .inr (4, [.long n0, s0])) :: rest)) (fun v ws' => ∃ (r : Int32) (K' : mK) (n1 : Int64) (s1 : Value), K'.1 = K.1 ∧ v = some (.int r) ∧ ws' = mRw ad ae cs K' J ((ao, .inr (4, [.long n1, s1])) :: rest)) := by
  refine mCw.of (by decide +kernel) (Nat.le_of_ble_eq_true rfl) (fun X hX hg hE => ?_)
  replace hX : mOK X RL cL_move 7 ⟨8, 2, 12, 130⟩ [(0, 15, 18, 19), (0, 15, 22, 21)] (mTy cs) := hX
  refine r_aload hX dL_move_0 rfl ?_
  refine r_aload_n hX dL_move_2 rfl rfl ?_
  refine r_iload_n hX dL_move_3 rfl rfl ?_
  refine r_iload_n hX dL_move_4 rfl rfl ?_
  refine r_iload_n hX dL_move_5 rfl rfl ?_
  refine r_iload hX dL_move_6 rfl ?_
  have kx : ∀ (E : String) (ws9 : va_W), mTh [xI, xA] (mRw ad ae cs K J ((ao, .inr (4, [.long n0, s0])) :: rest)) E ws9 → mT X 8 [(0, some (.ref (ad 0))), (1, some (.int p0)), (2, some (.int p1)), (3, some (.int p2)), (4, some (.int p3)), (5, some (.ref ao))] [.ref ao] ws9 (0 + 2) (0 + 12) E := by
    intro E ws9 z
    obtain ⟨zE, zw⟩ := z
    subst zw
    rcases List.mem_cons.mp zE with rfl | zE
    · refine r_catch1 hX rfl (by decide) kl_L_19 kca_I (fun q => ?_)
      refine r_astore hX dL_move_18 (by decide) rfl ?_
      refine r_iconst (v := 1) hX dL_move_20 (by decide) ?_
      exact r_iret hX hE dL_move_21 (Nat.le_of_ble_eq_true rfl) (Nat.le_of_ble_eq_true rfl) ⟨_, K, _, _, rfl, rfl, rfl⟩
    · obtain rfl := List.mem_singleton.mp zE
      refine r_catch2 hX hg (by decide) kl_L_19 rfl (by decide) kl_L_21 (fun q => ?_)
      refine r_astore hX dL_move_22 (by decide) rfl ?_
      refine r_iconst (v := 2) hX dL_move_24 (by decide) ?_
      exact r_iret hX hE dL_move_25 (Nat.le_of_ble_eq_true rfl) (Nat.le_of_ble_eq_true rfl) ⟨_, K, _, _, rfl, rfl, rfl⟩
  refine r_callV hX (c_X2_move ad cs K _ _ _ _ _) kv_L_41 0 rfl rfl rfl rfl (Nat.le_of_ble_eq_true rfl) ⟨(Nat.le_of_ble_eq_true rfl), (Nat.le_of_ble_eq_true rfl)⟩ ⟨(Nat.le_of_ble_eq_true rfl), (Nat.le_of_ble_eq_true rfl)⟩ dL_move_8 kx (fun v9 ws9 h9 => ?_)
  obtain ⟨r, K9, hK9, rfl, hw9⟩ := h9
  subst ws9
  dsimp only [mPush]
  refine r_i2l hX dL_move_11 ?_
  refine r_putN hX kg_L_13 21 rfl rfl rfl rfl (Nat.le_of_ble_eq_true rfl) dL_move_12 ?_
  refine r_goto (tgt := 26) hX dL_move_15 (by decide) ?_
  refine r_iconst (v := 0) hX dL_move_26 (by decide) ?_
  exact r_iret hX hE dL_move_27 (Nat.le_of_ble_eq_true rfl) (Nat.le_of_ble_eq_true rfl) ⟨_, K9, _, _, hK9, rfl, rfl⟩
theorem dL_isMoment_0 : decode cL_isMoment 0 = .ok (.aload 4, 2) := by decide +kernel
theorem dL_isMoment_2 : decode cL_isMoment 2 = .ok (.aload_n 0, 1) := by decide +kernel
theorem dL_isMoment_3 : decode cL_isMoment 3 = .ok (.iload_n 1, 1) := by decide +kernel
theorem dL_isMoment_4 : decode cL_isMoment 4 = .ok (.iload_n 2, 1) := by decide +kernel
theorem dL_isMoment_5 : decode cL_isMoment 5 = .ok (.iload_n 3, 1) := by decide +kernel
theorem dL_isMoment_6 : decode cL_isMoment 6 = .ok (.invokevirtual 63, 3) := by decide +kernel
theorem dL_isMoment_9 : decode cL_isMoment 9 = .ok (.ifCond .eq 7, 3) := by decide +kernel
theorem dL_isMoment_12 : decode cL_isMoment 12 = .ok (.lconst 1, 1) := by decide +kernel
theorem dL_isMoment_13 : decode cL_isMoment 13 = .ok (.goto 4, 3) := by decide +kernel
theorem dL_isMoment_16 : decode cL_isMoment 16 = .ok (.lconst 0, 1) := by decide +kernel
theorem dL_isMoment_17 : decode cL_isMoment 17 = .ok (.putfield 13, 3) := by decide +kernel
theorem dL_isMoment_20 : decode cL_isMoment 20 = .ok (.goto 11, 3) := by decide +kernel
theorem dL_isMoment_23 : decode cL_isMoment 23 = .ok (.astore 5, 2) := by decide +kernel
theorem dL_isMoment_25 : decode cL_isMoment 25 = .ok (.iconst 1, 1) := by decide +kernel
theorem dL_isMoment_26 : decode cL_isMoment 26 = .ok (.ireturn, 1) := by decide +kernel
theorem dL_isMoment_27 : decode cL_isMoment 27 = .ok (.astore 5, 2) := by decide +kernel
theorem dL_isMoment_29 : decode cL_isMoment 29 = .ok (.iconst 2, 1) := by decide +kernel
theorem dL_isMoment_30 : decode cL_isMoment 30 = .ok (.ireturn, 1) := by decide +kernel
theorem dL_isMoment_31 : decode cL_isMoment 31 = .ok (.iconst 0, 1) := by decide +kernel
theorem dL_isMoment_32 : decode cL_isMoment 32 = .ok (.ireturn, 1) := by decide +kernel
set_option maxHeartbeats 1000000 in
theorem c_L_isMoment (ad ae : Nat → Nat) (cs : ClassId × ClassId × ClassId) (K : mK) (J : mJ) (rest : va_W) (ao : Nat) (n0 : Int64) (s0 : Value) (p0 : Int32) (p1 : Int32) (p2 : Int32) : mCw (mTy cs) yL_isMoment cL_isMoment 6 (some .int) [(0, 20, 23, 19), (0, 20, 27, 21)] ⟨9, 3, 18, 149⟩ [.ref (ad 0), .int p0, .int p1, .int p2, .ref ao] (mRw ad ae cs K J ((ao, .inr (4, [.long n0, s0])) :: rest)) (fun v ws' => ∃ (r : Int32) (K' : mK) (n1 : Int64) (s1 : Value), K'.1 = K.1 ∧ v = some (.int r) ∧ ws' = mRw ad ae cs K' J ((ao, .inr (4, [.long n1, s1])) :: rest)) := by
  refine mCw.of (by decide +kernel) (Nat.le_of_ble_eq_true rfl) (fun X hX hg hE => ?_)
  replace hX : mOK X RL cL_isMoment 6 ⟨9, 3, 18, 149⟩ [(0, 20, 23, 19), (0, 20, 27, 21)] (mTy cs) := hX
  refine r_aload hX dL_isMoment_0 rfl ?_
  refine r_aload_n hX dL_isMoment_2 rfl rfl ?_
  refine r_iload_n hX dL_isMoment_3 rfl rfl ?_
  refine r_iload_n hX dL_isMoment_4 rfl rfl ?_
  refine r_iload_n hX dL_isMoment_5 rfl rfl ?_
  have kx : ∀ (E : String) (ws9 : va_W), mTh [xI, xA] (mRw ad ae cs K J ((ao, .inr (4, [.long n0, s0])) :: rest)) E ws9 → mT X 6 [(0, some (.ref (ad 0))), (1, some (.int p0)), (2, some (.int p1)), (3, some (.int p2)), (4, some (.ref ao))] [.ref ao] ws9 (0 + 3) (0 + 18) E := by
    intro E ws9 z
    obtain ⟨zE, zw⟩ := z
    subst zw
    rcases List.mem_cons.mp zE with rfl | zE
    · refine r_catch1 hX rfl (by decide) kl_L_19 kca_I (fun q => ?_)
      refine r_astore hX dL_isMoment_23 (by decide) rfl ?_
      refine r_iconst (v := 1) hX dL_isMoment_25 (by decide) ?_
      exact r_iret hX hE dL_isMoment_26 (Nat.le_of_ble_eq_true rfl) (Nat.le_of_ble_eq_true rfl) ⟨_, K, _, _, rfl, rfl, rfl⟩
    · obtain rfl := List.mem_singleton.mp zE
      refine r_catch2 hX hg (by decide) kl_L_19 rfl (by decide) kl_L_21 (fun q => ?_)
      refine r_astore hX dL_isMoment_27 (by decide) rfl ?_
      refine r_iconst (v := 2) hX dL_isMoment_29 (by decide) ?_
      exact r_iret hX hE dL_isMoment_30 (Nat.le_of_ble_eq_true rfl) (Nat.le_of_ble_eq_true rfl) ⟨_, K, _, _, rfl, rfl, rfl⟩
  refine r_callV hX (c_X2_isMoment ad cs K _ _ _ _) kv_L_63 0 rfl rfl rfl rfl (Nat.le_of_ble_eq_true rfl) ⟨(Nat.le_of_ble_eq_true rfl), (Nat.le_of_ble_eq_true rfl)⟩ ⟨(Nat.le_of_ble_eq_true rfl), (Nat.le_of_ble_eq_true rfl)⟩ dL_isMoment_6 kx (fun v9 ws9 h9 => ?_)
  obtain ⟨r, K9, br, hK9, rfl, hw9⟩ := h9
  subst ws9
  dsimp only [mPush]
  refine r_if_eq (tgt := 16) hX dL_isMoment_9 (by decide) (fun _ => ?_) (fun _ => ?_)
  · refine r_lconst (v := 0) hX dL_isMoment_16 (by decide) ?_
    refine r_putN hX kg_L_13 21 rfl rfl rfl rfl (Nat.le_of_ble_eq_true rfl) dL_isMoment_17 ?_
    refine r_goto (tgt := 31) hX dL_isMoment_20 (by decide) ?_
    refine r_iconst (v := 0) hX dL_isMoment_31 (by decide) ?_
    exact r_iret hX hE dL_isMoment_32 (Nat.le_of_ble_eq_true rfl) (Nat.le_of_ble_eq_true rfl) ⟨_, K9, _, _, hK9, rfl, rfl⟩
  · refine r_lconst (v := 1) hX dL_isMoment_12 (by decide) ?_
    refine r_goto (tgt := 17) hX dL_isMoment_13 (by decide) ?_
    refine r_putN hX kg_L_13 21 rfl rfl rfl rfl (Nat.le_of_ble_eq_true rfl) dL_isMoment_17 ?_
    refine r_goto (tgt := 31) hX dL_isMoment_20 (by decide) ?_
    refine r_iconst (v := 0) hX dL_isMoment_31 (by decide) ?_
    exact r_iret hX hE dL_isMoment_32 (Nat.le_of_ble_eq_true rfl) (Nat.le_of_ble_eq_true rfl) ⟨_, K9, _, _, hK9, rfl, rfl⟩
theorem dL_millis_0 : decode cL_millis 0 = .ok (.aload_n 2, 1) := by decide +kernel
theorem dL_millis_1 : decode cL_millis 1 = .ok (.aload_n 0, 1) := by decide +kernel
theorem dL_millis_2 : decode cL_millis 2 = .ok (.iload_n 1, 1) := by decide +kernel
theorem dL_millis_3 : decode cL_millis 3 = .ok (.invokevirtual 52, 3) := by decide +kernel
theorem dL_millis_6 : decode cL_millis 6 = .ok (.putfield 56, 3) := by decide +kernel
theorem dL_millis_9 : decode cL_millis 9 = .ok (.goto 6, 3) := by decide +kernel
theorem dL_millis_12 : decode cL_millis 12 = .ok (.astore_n 3, 1) := by decide +kernel
theorem dL_millis_13 : decode cL_millis 13 = .ok (.iconst 1, 1) := by decide +kernel
theorem dL_millis_14 : decode cL_millis 14 = .ok (.ireturn, 1) := by decide +kernel
theorem dL_millis_15 : decode cL_millis 15 = .ok (.iconst 0, 1) := by decide +kernel
theorem dL_millis_16 : decode cL_millis 16 = .ok (.ireturn, 1) := by decide +kernel
set_option maxHeartbeats 1000000 in
theorem c_L_millis (ad ae : Nat → Nat) (cs : ClassId × ClassId × ClassId) (K : mK) (J : mJ) (rest : va_W) (ao : Nat) (n0 : Int64) (s0 : Value) (p0 : Int32) : mCw (mTy cs) yL_millis cL_millis 4 (some .int) [(0, 9, 12, 19)] ⟨8, 31, 1506, 331⟩ [.ref (ad 0), .int p0, .ref ao] (mRw ad ae cs K J ((ao, .inr (4, [.long n0, s0])) :: rest)) (fun v ws' => ∃ (r : Int32) (K' : mK) (n1 : Int64) (s1 : Value), K'.1 = K.1 ∧ v = some (.int r) ∧ ws' = mRw ad ae cs K' J ((ao, .inr (4, [.long n1, s1])) :: rest)) := by
  refine mCw.of (by decide +kernel) (Nat.le_of_ble_eq_true rfl) (fun X hX hg hE => ?_)
  replace hX : mOK X RL cL_millis 4 ⟨8, 31, 1506, 331⟩ [(0, 9, 12, 19)] (mTy cs) := hX
  refine r_aload_n hX dL_millis_0 rfl rfl ?_
  refine r_aload_n hX dL_millis_1 rfl rfl ?_
  refine r_iload_n hX dL_millis_2 rfl rfl ?_
  have kx : ∀ (E : String) (ws9 : va_W), mTh [xI] (mRw ad ae cs K J ((ao, .inr (4, [.long n0, s0])) :: rest)) E ws9 → mT X 3 [(0, some (.ref (ad 0))), (1, some (.int p0)), (2, some (.ref ao))] [.ref ao] ws9 (0 + 31) (0 + 1506) E := by
    intro E ws9 z
    obtain ⟨zE, zw⟩ := z
    subst zw
    obtain rfl := List.mem_singleton.mp zE
    refine r_catch1 hX rfl (by decide) kl_L_19 kca_I (fun q => ?_)
    refine r_astore_n hX dL_millis_12 rfl (by decide) rfl ?_
    refine r_iconst (v := 1) hX dL_millis_13 (by decide) ?_
    exact r_iret hX hE dL_millis_14 (Nat.le_of_ble_eq_true rfl) (Nat.le_of_ble_eq_true rfl) ⟨_, K, _, _, rfl, rfl, rfl⟩
  refine r_callV hX (c_X2_millis ad cs K _ _) kv_L_52 0 rfl rfl rfl rfl (Nat.le_of_ble_eq_true rfl) ⟨(Nat.le_of_ble_eq_true rfl), (Nat.le_of_ble_eq_true rfl)⟩ ⟨(Nat.le_of_ble_eq_true rfl), (Nat.le_of_ble_eq_true rfl)⟩ dL_millis_3 kx (fun v9 ws9 h9 => ?_)
  obtain ⟨⟨s, rfl⟩, hw9⟩ := h9
  subst ws9
  dsimp only [mPush]
  refine r_putN hX kg_L_56 21 rfl rfl rfl rfl (Nat.le_of_ble_eq_true rfl) dL_millis_6 ?_
  refine r_goto (tgt := 15) hX dL_millis_9 (by decide) ?_
  refine r_iconst (v := 0) hX dL_millis_15 (by decide) ?_
  exact r_iret hX hE dL_millis_16 (Nat.le_of_ble_eq_true rfl) (Nat.le_of_ble_eq_true rfl) ⟨_, K, _, _, rfl, rfl, rfl⟩
