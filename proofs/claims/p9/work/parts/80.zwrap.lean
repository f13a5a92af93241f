/-! The law's wrappers, exact. (Rows by a program of this repository.) -/
theorem z_X2_secondsP (ad : Nat → Nat) (cs : ClassId × ClassId × ClassId) (S : mS) (T : mT2) (rest : va_W) (hS : sWF S) (a0 : Int) (h0 : rJ a0) : mCt (mTy cs) yX2_seconds cX2_seconds 2 (some .int) ⟨7, 1, 6, 103⟩ [.ref (ad 0), .int (iZ a0)] (mWd ad cs (mKof S T) rest) (fun v ws' => (((0 ≤ a0 ∧ a0 < 4)) ∧ (0 ≤ (0 : Int))) ∧ v = some (.int (iZ (sof S a0.toNat))) ∧ ws' = mWd ad cs (mKof S T) rest) (fun E ws' => ws' = mWd ad cs (mKof S T) rest ∧ ((E = xI ∧ ¬ ((0 ≤ a0 ∧ a0 < 4))) ∨ (E = xA ∧ ((0 ≤ a0 ∧ a0 < 4)) ∧ ¬ (0 ≤ (0 : Int))))) :=
  (z_X2_seconds ad cs S T rest hS a0 h0).mono (fun v w h => ⟨⟨h.1, by decide⟩, h.2⟩) (fun E w h => ⟨h.2.1, Or.inl ⟨h.1, h.2.2⟩⟩)
theorem z_X2_houseP (ad : Nat → Nat) (cs : ClassId × ClassId × ClassId) (S : mS) (T : mT2) (rest : va_W) (hS : sWF S) (a0 : Int) (h0 : rJ a0) : mCt (mTy cs) yX2_house cX2_house 2 (some .int) ⟨7, 1, 6, 104⟩ [.ref (ad 0), .int (iZ a0)] (mWd ad cs (mKof S T) rest) (fun v ws' => (((0 ≤ a0 ∧ a0 ≤ 3)) ∧ (0 ≤ (0 : Int))) ∧ v = some (.int (iZ (zHo S a0).toInt)) ∧ ws' = mWd ad cs (mKof S T) rest) (fun E ws' => ws' = mWd ad cs (mKof S T) rest ∧ ((E = xA ∧ ¬ ((0 ≤ a0 ∧ a0 ≤ 3))) ∨ (E = xI ∧ ((0 ≤ a0 ∧ a0 ≤ 3)) ∧ ¬ (0 ≤ (0 : Int))))) :=
  (z_X2_house ad cs S T rest hS a0 h0).mono (fun v w h => ⟨⟨h.1, by decide⟩, by rw [iZ_self]; exact h.2.1, h.2.2⟩) (fun E w h => ⟨h.2.1, Or.inl ⟨h.1, h.2.2⟩⟩)
set_option maxHeartbeats 1000000 in
theorem z_L_offset (ad ae : Nat → Nat) (cs : ClassId × ClassId × ClassId) (S : mS) (T : mT2) (J : mJ) (rest : va_W) (hS : sWF S) (ao : Nat) (n0 : Int64) (s0 : Value) (a0 : Int) (h0 : rJ a0) (a1 : Int) (h1 : rJ a1)  : mCw (mTy cs) yL_offset cL_offset 5 (some .int) [(0, 11, 14, 19), (0, 11, 18, 21)] ⟨8, 2, 12, 127⟩ [.ref (ad 0), .int (iZ a0), .int (iZ a1), .ref ao] (mRw ad ae cs (mKof S T) J ((ao, .inr (4, [.long n0, s0])) :: rest)) (fun v ws' => ((((0 ≤ a0 ∧ a0 < 4)) ∧ (-64800 ≤ a1 ∧ a1 ≤ 64800)) ∧ v = some (.int 0) ∧ ws' = (mRw ad ae cs (mKof ((sof S a0.toNat, sOf S a0.toNat a1)).2 T) J ((ao, .inr (4, [.long (iZ ((sof S a0.toNat, sOf S a0.toNat a1)).1).toInt64, s0])) :: rest))) ∨ (¬ ((0 ≤ a0 ∧ a0 < 4)) ∧ v = some (.int 1) ∧ ws' = (mRw ad ae cs (mKof S T) J ((ao, .inr (4, [.long n0, s0])) :: rest))) ∨ (((0 ≤ a0 ∧ a0 < 4)) ∧ ¬ (-64800 ≤ a1 ∧ a1 ≤ 64800) ∧ v = some (.int 2) ∧ ws' = (mRw ad ae cs (mKof S T) J ((ao, .inr (4, [.long n0, s0])) :: rest)))) := by
  refine mCw.of (by decide +kernel) (Nat.le_of_ble_eq_true rfl) (fun X hX hg hE => ?_)
  replace hX : mOK X RL cL_offset 5 ⟨8, 2, 12, 127⟩ [(0, 11, 14, 19), (0, 11, 18, 21)] (mTy cs) := hX
  refine r_aload_n hX dL_offset_0 rfl rfl ?_
  refine r_aload_n hX dL_offset_1 rfl rfl ?_
  refine r_iload_n hX dL_offset_2 rfl rfl ?_
  refine r_iload_n hX dL_offset_3 rfl rfl ?_
  refine r_callV hX (z_X2_offset ad cs S T (mMd ae cs J ((ao, .inr (4, [.long n0, s0])) :: rest)) hS _ h0 _ h1) kv_L_7 0 rfl rfl rfl rfl (Nat.le_of_ble_eq_true rfl) ⟨(Nat.le_of_ble_eq_true rfl), (Nat.le_of_ble_eq_true rfl)⟩ ⟨(Nat.le_of_ble_eq_true rfl), (Nat.le_of_ble_eq_true rfl)⟩ dL_offset_4 (fun E ws9 z => ?_) (fun v9 ws9 h9 => ?_)
  · obtain ⟨rfl, ⟨rfl, zi⟩ | ⟨rfl, zi, za⟩⟩ := z
    ·
      refine r_catch1 hX rfl (by decide) kl_L_19 kca_I (fun q => ?_)
      refine r_astore hX dL_offset_14 (by decide) rfl ?_
      refine r_iconst (v := 1) hX dL_offset_16 (by decide) ?_
      exact r_iret hX hE dL_offset_17 (Nat.le_of_ble_eq_true rfl) (Nat.le_of_ble_eq_true rfl) (Or.inr (Or.inl ⟨zi, rfl, rfl⟩))
    ·
      refine r_catch2 hX hg (by decide) kl_L_19 rfl (by decide) kl_L_21 (fun q => ?_)
      refine r_astore hX dL_offset_18 (by decide) rfl ?_
      refine r_iconst (v := 2) hX dL_offset_20 (by decide) ?_
      exact r_iret hX hE dL_offset_21 (Nat.le_of_ble_eq_true rfl) (Nat.le_of_ble_eq_true rfl) (Or.inr (Or.inr ⟨zi, za, rfl, rfl⟩))
  obtain ⟨hg9, rfl, hw9⟩ := h9
  subst ws9
  dsimp only [mPush]
  refine r_i2l hX dL_offset_7 ?_
  refine r_putN hX kg_L_13 21 rfl rfl rfl rfl (Nat.le_of_ble_eq_true rfl) dL_offset_8 ?_
  refine r_goto (tgt := 22) hX dL_offset_11 (by decide) ?_
  refine r_iconst (v := 0) hX dL_offset_22 (by decide) ?_
  exact r_iret hX hE dL_offset_23 (Nat.le_of_ble_eq_true rfl) (Nat.le_of_ble_eq_true rfl) (Or.inl ⟨hg9, rfl, rfl⟩)
set_option maxHeartbeats 1000000 in
theorem z_L_offsetOf (ad ae : Nat → Nat) (cs : ClassId × ClassId × ClassId) (S : mS) (T : mT2) (J : mJ) (rest : va_W) (hS : sWF S) (ao : Nat) (n0 : Int64) (s0 : Value) (a0 : Int) (h0 : rJ a0) (a1 : Int) (h1 : rJ a1) (a2 : Int) (h2 : rJ a2) (a3 : Int) (h3 : rJ a3)  : mCw (mTy cs) yL_offsetOf cL_offsetOf 7 (some .int) [(0, 15, 18, 19)] ⟨8, 1, 6, 130⟩ [.ref (ad 0), .int (iZ a0), .int (iZ a1), .int (iZ a2), .int (iZ a3), .ref ao] (mRw ad ae cs (mKof S T) J ((ao, .inr (4, [.long n0, s0])) :: rest)) (fun v ws' => ((((0 ≤ a0 ∧ a0 < 4)) ∧ (0 ≤ (0 : Int))) ∧ v = some (.int 0) ∧ ws' = (mRw ad ae cs (mKof (oOff S a0.toNat a1 a2 a3).2 T) J ((ao, .inr (4, [.long (iZ (oOff S a0.toNat a1 a2 a3).1).toInt64, s0])) :: rest))) ∨ (¬ ((0 ≤ a0 ∧ a0 < 4)) ∧ v = some (.int 1) ∧ ws' = (mRw ad ae cs (mKof S T) J ((ao, .inr (4, [.long n0, s0])) :: rest))) ∨ (((0 ≤ a0 ∧ a0 < 4)) ∧ ¬ (0 ≤ (0 : Int)) ∧ v = some (.int 2) ∧ ws' = (mRw ad ae cs (mKof S T) J ((ao, .inr (4, [.long n0, s0])) :: rest)))) := by
  refine mCw.of (by decide +kernel) (Nat.le_of_ble_eq_true rfl) (fun X hX hg hE => ?_)
  replace hX : mOK X RL cL_offsetOf 7 ⟨8, 1, 6, 130⟩ [(0, 15, 18, 19)] (mTy cs) := hX
  refine r_aload hX dL_offsetOf_0 rfl ?_
  refine r_aload_n hX dL_offsetOf_2 rfl rfl ?_
  refine r_iload_n hX dL_offsetOf_3 rfl rfl ?_
  refine r_iload_n hX dL_offsetOf_4 rfl rfl ?_
  refine r_iload_n hX dL_offsetOf_5 rfl rfl ?_
  refine r_iload hX dL_offsetOf_6 rfl ?_
  refine r_callV hX (z_X2_offsetOf ad cs S T (mMd ae cs J ((ao, .inr (4, [.long n0, s0])) :: rest)) hS _ h0 _ h1 _ h2 _ h3) kv_L_23 0 rfl rfl rfl rfl (Nat.le_of_ble_eq_true rfl) ⟨(Nat.le_of_ble_eq_true rfl), (Nat.le_of_ble_eq_true rfl)⟩ ⟨(Nat.le_of_ble_eq_true rfl), (Nat.le_of_ble_eq_true rfl)⟩ dL_offsetOf_8 (fun E ws9 z => ?_) (fun v9 ws9 h9 => ?_)
  · obtain ⟨rfl, ⟨rfl, zi⟩ | ⟨rfl, zi, za⟩⟩ := z
    ·
      refine r_catch1 hX rfl (by decide) kl_L_19 kca_I (fun q => ?_)
      refine r_astore hX dL_offsetOf_18 (by decide) rfl ?_
      refine r_iconst (v := 1) hX dL_offsetOf_20 (by decide) ?_
      exact r_iret hX hE dL_offsetOf_21 (Nat.le_of_ble_eq_true rfl) (Nat.le_of_ble_eq_true rfl) (Or.inr (Or.inl ⟨zi, rfl, rfl⟩))
    · exact absurd (by decide) za
  obtain ⟨hg9, rfl, hw9⟩ := h9
  subst ws9
  dsimp only [mPush]
  refine r_i2l hX dL_offsetOf_11 ?_
  refine r_putN hX kg_L_13 21 rfl rfl rfl rfl (Nat.le_of_ble_eq_true rfl) dL_offsetOf_12 ?_
  refine r_goto (tgt := 22) hX dL_offsetOf_15 (by decide) ?_
  refine r_iconst (v := 0) hX dL_offsetOf_22 (by decide) ?_
  exact r_iret hX hE dL_offsetOf_23 (Nat.le_of_ble_eq_true rfl) (Nat.le_of_ble_eq_true rfl) (Or.inl ⟨hg9, rfl, rfl⟩)
set_option maxHeartbeats 1000000 in
theorem z_L_seconds (ad ae : Nat → Nat) (cs : ClassId × ClassId × ClassId) (S : mS) (T : mT2) (J : mJ) (rest : va_W) (hS : sWF S) (ao : Nat) (n0 : Int64) (s0 : Value) (a0 : Int) (h0 : rJ a0)  : mCw (mTy cs) yL_seconds cL_seconds 4 (some .int) [(0, 10, 13, 19)] ⟨8, 1, 6, 124⟩ [.ref (ad 0), .int (iZ a0), .ref ao] (mRw ad ae cs (mKof S T) J ((ao, .inr (4, [.long n0, s0])) :: rest)) (fun v ws' => ((((0 ≤ a0 ∧ a0 < 4)) ∧ (0 ≤ (0 : Int))) ∧ v = some (.int 0) ∧ ws' = (mRw ad ae cs (mKof S T) J ((ao, .inr (4, [.long (iZ (sof S a0.toNat)).toInt64, s0])) :: rest))) ∨ (¬ ((0 ≤ a0 ∧ a0 < 4)) ∧ v = some (.int 1) ∧ ws' = (mRw ad ae cs (mKof S T) J ((ao, .inr (4, [.long n0, s0])) :: rest))) ∨ (((0 ≤ a0 ∧ a0 < 4)) ∧ ¬ (0 ≤ (0 : Int)) ∧ v = some (.int 2) ∧ ws' = (mRw ad ae cs (mKof S T) J ((ao, .inr (4, [.long n0, s0])) :: rest)))) := by
  refine mCw.of (by decide +kernel) (Nat.le_of_ble_eq_true rfl) (fun X hX hg hE => ?_)
  replace hX : mOK X RL cL_seconds 4 ⟨8, 1, 6, 124⟩ [(0, 10, 13, 19)] (mTy cs) := hX
  refine r_aload_n hX dL_seconds_0 rfl rfl ?_
  refine r_aload_n hX dL_seconds_1 rfl rfl ?_
  refine r_iload_n hX dL_seconds_2 rfl rfl ?_
  refine r_callV hX (z_X2_secondsP ad cs S T (mMd ae cs J ((ao, .inr (4, [.long n0, s0])) :: rest)) hS _ h0) kv_L_27 0 rfl rfl rfl rfl (Nat.le_of_ble_eq_true rfl) ⟨(Nat.le_of_ble_eq_true rfl), (Nat.le_of_ble_eq_true rfl)⟩ ⟨(Nat.le_of_ble_eq_true rfl), (Nat.le_of_ble_eq_true rfl)⟩ dL_seconds_3 (fun E ws9 z => ?_) (fun v9 ws9 h9 => ?_)
  · obtain ⟨rfl, ⟨rfl, zi⟩ | ⟨rfl, zi, za⟩⟩ := z
    ·
      refine r_catch1 hX rfl (by decide) kl_L_19 kca_I (fun q => ?_)
      refine r_astore_n hX dL_seconds_13 rfl (by decide) rfl ?_
      refine r_iconst (v := 1) hX dL_seconds_14 (by decide) ?_
      exact r_iret hX hE dL_seconds_15 (Nat.le_of_ble_eq_true rfl) (Nat.le_of_ble_eq_true rfl) (Or.inr (Or.inl ⟨zi, rfl, rfl⟩))
    · exact absurd (by decide) za
  obtain ⟨hg9, rfl, hw9⟩ := h9
  subst ws9
  dsimp only [mPush]
  refine r_i2l hX dL_seconds_6 ?_
  refine r_putN hX kg_L_13 21 rfl rfl rfl rfl (Nat.le_of_ble_eq_true rfl) dL_seconds_7 ?_
  refine r_goto (tgt := 16) hX dL_seconds_10 (by decide) ?_
  refine r_iconst (v := 0) hX dL_seconds_16 (by decide) ?_
  exact r_iret hX hE dL_seconds_17 (Nat.le_of_ble_eq_true rfl) (Nat.le_of_ble_eq_true rfl) (Or.inl ⟨hg9, rfl, rfl⟩)
set_option maxHeartbeats 1000000 in
theorem z_L_orderOffset (ad ae : Nat → Nat) (cs : ClassId × ClassId × ClassId) (S : mS) (T : mT2) (J : mJ) (rest : va_W) (hS : sWF S) (ao : Nat) (n0 : Int64) (s0 : Value) (a0 : Int) (h0 : rJ a0) (a1 : Int) (h1 : rJ a1)  : mCw (mTy cs) yL_orderOffset cL_orderOffset 5 (some .int) [(0, 11, 14, 19)] ⟨9, 2, 12, 146⟩ [.ref (ad 0), .int (iZ a0), .int (iZ a1), .ref ao] (mRw ad ae cs (mKof S T) J ((ao, .inr (4, [.long n0, s0])) :: rest)) (fun v ws' => ((((0 ≤ a0 ∧ a0 < 4) ∧ (0 ≤ a1 ∧ a1 < 4)) ∧ (0 ≤ (0 : Int))) ∧ v = some (.int 0) ∧ ws' = (mRw ad ae cs (mKof S T) J ((ao, .inr (4, [.long (iZ (cmpZ (sof S a1.toNat) (sof S a0.toNat))).toInt64, s0])) :: rest))) ∨ (¬ ((0 ≤ a0 ∧ a0 < 4) ∧ (0 ≤ a1 ∧ a1 < 4)) ∧ v = some (.int 1) ∧ ws' = (mRw ad ae cs (mKof S T) J ((ao, .inr (4, [.long n0, s0])) :: rest))) ∨ (((0 ≤ a0 ∧ a0 < 4) ∧ (0 ≤ a1 ∧ a1 < 4)) ∧ ¬ (0 ≤ (0 : Int)) ∧ v = some (.int 2) ∧ ws' = (mRw ad ae cs (mKof S T) J ((ao, .inr (4, [.long n0, s0])) :: rest)))) := by
  refine mCw.of (by decide +kernel) (Nat.le_of_ble_eq_true rfl) (fun X hX hg hE => ?_)
  replace hX : mOK X RL cL_orderOffset 5 ⟨9, 2, 12, 146⟩ [(0, 11, 14, 19)] (mTy cs) := hX
  refine r_aload_n hX dL_orderOffset_0 rfl rfl ?_
  refine r_aload_n hX dL_orderOffset_1 rfl rfl ?_
  refine r_iload_n hX dL_orderOffset_2 rfl rfl ?_
  refine r_iload_n hX dL_orderOffset_3 rfl rfl ?_
  refine r_callV hX (z_X2_orderOffset ad cs S T (mMd ae cs J ((ao, .inr (4, [.long n0, s0])) :: rest)) hS _ h0 _ h1) kv_L_31 0 rfl rfl rfl rfl (Nat.le_of_ble_eq_true rfl) ⟨(Nat.le_of_ble_eq_true rfl), (Nat.le_of_ble_eq_true rfl)⟩ ⟨(Nat.le_of_ble_eq_true rfl), (Nat.le_of_ble_eq_true rfl)⟩ dL_orderOffset_4 (fun E ws9 z => ?_) (fun v9 ws9 h9 => ?_)
  · obtain ⟨rfl, ⟨rfl, zi⟩ | ⟨rfl, zi, za⟩⟩ := z
    ·
      refine r_catch1 hX rfl (by decide) kl_L_19 kca_I (fun q => ?_)
      refine r_astore hX dL_orderOffset_14 (by decide) rfl ?_
      refine r_iconst (v := 1) hX dL_orderOffset_16 (by decide) ?_
      exact r_iret hX hE dL_orderOffset_17 (Nat.le_of_ble_eq_true rfl) (Nat.le_of_ble_eq_true rfl) (Or.inr (Or.inl ⟨zi, rfl, rfl⟩))
    · exact absurd (by decide) za
  obtain ⟨hg9, rfl, hw9⟩ := h9
  subst ws9
  dsimp only [mPush]
  refine r_i2l hX dL_orderOffset_7 ?_
  refine r_putN hX kg_L_13 21 rfl rfl rfl rfl (Nat.le_of_ble_eq_true rfl) dL_orderOffset_8 ?_
  refine r_goto (tgt := 18) hX dL_orderOffset_11 (by decide) ?_
  refine r_iconst (v := 0) hX dL_orderOffset_18 (by decide) ?_
  exact r_iret hX hE dL_orderOffset_19 (Nat.le_of_ble_eq_true rfl) (Nat.le_of_ble_eq_true rfl) (Or.inl ⟨hg9, rfl, rfl⟩)
set_option maxHeartbeats 1000000 in
theorem z_L_moment (ad ae : Nat → Nat) (cs : ClassId × ClassId × ClassId) (S : mS) (T : mT2) (J : mJ) (rest : va_W) (hS : sWF S) (ao : Nat) (n0 : Int64) (s0 : Value) (a0 : Int) (h0 : rJ a0) (a1 : Int) (h1 : rJ a1) (a2 : Int) (h2 : rJ a2)  : mCw (mTy cs) yL_moment cL_moment 6 (some .int) [(0, 13, 16, 19)] ⟨8, 1, 6, 126⟩ [.ref (ad 0), .int (iZ a0), .int (iZ a1), .int (iZ a2), .ref ao] (mRw ad ae cs (mKof S T) J ((ao, .inr (4, [.long n0, s0])) :: rest)) (fun v ws' => ((((0 ≤ a0 ∧ a0 < 4)) ∧ (0 ≤ (0 : Int))) ∧ v = some (.int 0) ∧ ws' = (mRw ad ae cs (mKof (oNum S a0.toNat (a1 * 1000000000 + a2)).2 T) J ((ao, .inr (4, [.long (iZ (oNum S a0.toNat (a1 * 1000000000 + a2)).1).toInt64, s0])) :: rest))) ∨ (¬ ((0 ≤ a0 ∧ a0 < 4)) ∧ v = some (.int 1) ∧ ws' = (mRw ad ae cs (mKof S T) J ((ao, .inr (4, [.long n0, s0])) :: rest))) ∨ (((0 ≤ a0 ∧ a0 < 4)) ∧ ¬ (0 ≤ (0 : Int)) ∧ v = some (.int 2) ∧ ws' = (mRw ad ae cs (mKof S T) J ((ao, .inr (4, [.long n0, s0])) :: rest)))) := by
  refine mCw.of (by decide +kernel) (Nat.le_of_ble_eq_true rfl) (fun X hX hg hE => ?_)
  replace hX : mOK X RL cL_moment 6 ⟨8, 1, 6, 126⟩ [(0, 13, 16, 19)] (mTy cs) := hX
  refine r_aload hX dL_moment_0 rfl ?_
  refine r_aload_n hX dL_moment_2 rfl rfl ?_
  refine r_iload_n hX dL_moment_3 rfl rfl ?_
  refine r_iload_n hX dL_moment_4 rfl rfl ?_
  refine r_iload_n hX dL_moment_5 rfl rfl ?_
  refine r_callV hX (z_X2_moment ad cs S T (mMd ae cs J ((ao, .inr (4, [.long n0, s0])) :: rest)) hS _ h0 _ h1 _ h2) kv_L_34 0 rfl rfl rfl rfl (Nat.le_of_ble_eq_true rfl) ⟨(Nat.le_of_ble_eq_true rfl), (Nat.le_of_ble_eq_true rfl)⟩ ⟨(Nat.le_of_ble_eq_true rfl), (Nat.le_of_ble_eq_true rfl)⟩ dL_moment_6 (fun E ws9 z => ?_) (fun v9 ws9 h9 => ?_)
  · obtain ⟨rfl, ⟨rfl, zi⟩ | ⟨rfl, zi, za⟩⟩ := z
    ·
      refine r_catch1 hX rfl (by decide) kl_L_19 kca_I (fun q => ?_)
      refine r_astore hX dL_moment_16 (by decide) rfl ?_
      refine r_iconst (v := 1) hX dL_moment_18 (by decide) ?_
      exact r_iret hX hE dL_moment_19 (Nat.le_of_ble_eq_true rfl) (Nat.le_of_ble_eq_true rfl) (Or.inr (Or.inl ⟨zi, rfl, rfl⟩))
    · exact absurd (by decide) za
  obtain ⟨hg9, rfl, hw9⟩ := h9
  subst ws9
  dsimp only [mPush]
  refine r_i2l hX dL_moment_9 ?_
  refine r_putN hX kg_L_13 21 rfl rfl rfl rfl (Nat.le_of_ble_eq_true rfl) dL_moment_10 ?_
  refine r_goto (tgt := 20) hX dL_moment_13 (by decide) ?_
  refine r_iconst (v := 0) hX dL_moment_20 (by decide) ?_
  exact r_iret hX hE dL_moment_21 (Nat.le_of_ble_eq_true rfl) (Nat.le_of_ble_eq_true rfl) (Or.inl ⟨hg9, rfl, rfl⟩)
set_option maxHeartbeats 1000000 in
theorem z_L_milli (ad ae : Nat → Nat) (cs : ClassId × ClassId × ClassId) (S : mS) (T : mT2) (J : mJ) (rest : va_W) (hS : sWF S) (ao : Nat) (n0 : Int64) (s0 : Value) (a0 : Int) (h0 : rJ a0) (a1 : Int) (h1 : rJ a1) (a2 : Int) (h2 : rJ a2)  : mCw (mTy cs) yL_milli cL_milli 6 (some .int) [(0, 13, 16, 19)] ⟨8, 1, 6, 126⟩ [.ref (ad 0), .int (iZ a0), .int (iZ a1), .int (iZ a2), .ref ao] (mRw ad ae cs (mKof S T) J ((ao, .inr (4, [.long n0, s0])) :: rest)) (fun v ws' => ((((0 ≤ a0 ∧ a0 < 4)) ∧ (0 ≤ (0 : Int))) ∧ v = some (.int 0) ∧ ws' = (mRw ad ae cs (mKof (oNum S a0.toNat (a1 * 1000000000 + a2 * 1000000)).2 T) J ((ao, .inr (4, [.long (iZ (oNum S a0.toNat (a1 * 1000000000 + a2 * 1000000)).1).toInt64, s0])) :: rest))) ∨ (¬ ((0 ≤ a0 ∧ a0 < 4)) ∧ v = some (.int 1) ∧ ws' = (mRw ad ae cs (mKof S T) J ((ao, .inr (4, [.long n0, s0])) :: rest))) ∨ (((0 ≤ a0 ∧ a0 < 4)) ∧ ¬ (0 ≤ (0 : Int)) ∧ v = some (.int 2) ∧ ws' = (mRw ad ae cs (mKof S T) J ((ao, .inr (4, [.long n0, s0])) :: rest)))) := by
  refine mCw.of (by decide +kernel) (Nat.le_of_ble_eq_true rfl) (fun X hX hg hE => ?_)
  replace hX : mOK X RL cL_milli 6 ⟨8, 1, 6, 126⟩ [(0, 13, 16, 19)] (mTy cs) := hX
  refine r_aload hX dL_milli_0 rfl ?_
  refine r_aload_n hX dL_milli_2 rfl rfl ?_
  refine r_iload_n hX dL_milli_3 rfl rfl ?_
  refine r_iload_n hX dL_milli_4 rfl rfl ?_
  refine r_iload_n hX dL_milli_5 rfl rfl ?_
  refine r_callV hX (z_X2_milli ad cs S T (mMd ae cs J ((ao, .inr (4, [.long n0, s0])) :: rest)) hS _ h0 _ h1 _ h2) kv_L_38 0 rfl rfl rfl rfl (Nat.le_of_ble_eq_true rfl) ⟨(Nat.le_of_ble_eq_true rfl), (Nat.le_of_ble_eq_true rfl)⟩ ⟨(Nat.le_of_ble_eq_true rfl), (Nat.le_of_ble_eq_true rfl)⟩ dL_milli_6 (fun E ws9 z => ?_) (fun v9 ws9 h9 => ?_)
  · obtain ⟨rfl, ⟨rfl, zi⟩ | ⟨rfl, zi, za⟩⟩ := z
    ·
      refine r_catch1 hX rfl (by decide) kl_L_19 kca_I (fun q => ?_)
      refine r_astore hX dL_milli_16 (by decide) rfl ?_
      refine r_iconst (v := 1) hX dL_milli_18 (by decide) ?_
      exact r_iret hX hE dL_milli_19 (Nat.le_of_ble_eq_true rfl) (Nat.le_of_ble_eq_true rfl) (Or.inr (Or.inl ⟨zi, rfl, rfl⟩))
    · exact absurd (by decide) za
  obtain ⟨hg9, rfl, hw9⟩ := h9
  subst ws9
  dsimp only [mPush]
  refine r_i2l hX dL_milli_9 ?_
  refine r_putN hX kg_L_13 21 rfl rfl rfl rfl (Nat.le_of_ble_eq_true rfl) dL_milli_10 ?_
  refine r_goto (tgt := 20) hX dL_milli_13 (by decide) ?_
  refine r_iconst (v := 0) hX dL_milli_20 (by decide) ?_
  exact r_iret hX hE dL_milli_21 (Nat.le_of_ble_eq_true rfl) (Nat.le_of_ble_eq_true rfl) (Or.inl ⟨hg9, rfl, rfl⟩)
set_option maxHeartbeats 1000000 in
theorem z_L_move (ad ae : Nat → Nat) (cs : ClassId × ClassId × ClassId) (S : mS) (T : mT2) (J : mJ) (rest : va_W) (hS : sWF S) (ao : Nat) (n0 : Int64) (s0 : Value) (a0 : Int) (h0 : rJ a0) (a1 : Int) (h1 : rJ a1) (a2 : Int) (h2 : rJ a2) (b3 : Bool)  : mCw (mTy cs) yL_move cL_move 7 (some .int) [(0, 15, 18, 19), (0, 15, 22, 21)] ⟨8, 2, 12, 130⟩ [.ref (ad 0), .int (iZ a0), .int (iZ a1), .int (iZ a2), .int (b2i b3), .ref ao] (mRw ad ae cs (mKof S T) J ((ao, .inr (4, [.long n0, s0])) :: rest)) (fun v ws' => ((((0 ≤ a0 ∧ a0 < 4)) ∧ (0 ≤ a1 ∧ a1 ≤ 2)) ∧ v = some (.int 0) ∧ ws' = (mRw ad ae cs (mKof (oNum S a0.toNat (snu S a0.toNat + zSg a2 b3 * zUn a1)).2 T) J ((ao, .inr (4, [.long (iZ (oNum S a0.toNat (snu S a0.toNat + zSg a2 b3 * zUn a1)).1).toInt64, s0])) :: rest))) ∨ (¬ ((0 ≤ a0 ∧ a0 < 4)) ∧ v = some (.int 1) ∧ ws' = (mRw ad ae cs (mKof S T) J ((ao, .inr (4, [.long n0, s0])) :: rest))) ∨ (((0 ≤ a0 ∧ a0 < 4)) ∧ ¬ (0 ≤ a1 ∧ a1 ≤ 2) ∧ v = some (.int 2) ∧ ws' = (mRw ad ae cs (mKof S T) J ((ao, .inr (4, [.long n0, s0])) :: rest)))) := by
  refine mCw.of (by decide +kernel) (Nat.le_of_ble_eq_true rfl) (fun X hX hg hE => ?_)
  replace hX : mOK X RL cL_move 7 ⟨8, 2, 12, 130⟩ [(0, 15, 18, 19), (0, 15, 22, 21)] (mTy cs) := hX
  refine r_aload hX dL_move_0 rfl ?_
  refine r_aload_n hX dL_move_2 rfl rfl ?_
  refine r_iload_n hX dL_move_3 rfl rfl ?_
  refine r_iload_n hX dL_move_4 rfl rfl ?_
  refine r_iload_n hX dL_move_5 rfl rfl ?_
  refine r_iload hX dL_move_6 rfl ?_
  refine r_callV hX (z_X2_move ad cs S T (mMd ae cs J ((ao, .inr (4, [.long n0, s0])) :: rest)) hS _ h0 _ h1 _ h2 _) kv_L_41 0 rfl rfl rfl rfl (Nat.le_of_ble_eq_true rfl) ⟨(Nat.le_of_ble_eq_true rfl), (Nat.le_of_ble_eq_true rfl)⟩ ⟨(Nat.le_of_ble_eq_true rfl), (Nat.le_of_ble_eq_true rfl)⟩ dL_move_8 (fun E ws9 z => ?_) (fun v9 ws9 h9 => ?_)
  · obtain ⟨rfl, ⟨rfl, zi⟩ | ⟨rfl, zi, za⟩⟩ := z
    ·
      refine r_catch1 hX rfl (by decide) kl_L_19 kca_I (fun q => ?_)
      refine r_astore hX dL_move_18 (by decide) rfl ?_
      refine r_iconst (v := 1) hX dL_move_20 (by decide) ?_
      exact r_iret hX hE dL_move_21 (Nat.le_of_ble_eq_true rfl) (Nat.le_of_ble_eq_true rfl) (Or.inr (Or.inl ⟨zi, rfl, rfl⟩))
    ·
      refine r_catch2 hX hg (by decide) kl_L_19 rfl (by decide) kl_L_21 (fun q => ?_)
      refine r_astore hX dL_move_22 (by decide) rfl ?_
      refine r_iconst (v := 2) hX dL_move_24 (by decide) ?_
      exact r_iret hX hE dL_move_25 (Nat.le_of_ble_eq_true rfl) (Nat.le_of_ble_eq_true rfl) (Or.inr (Or.inr ⟨zi, za, rfl, rfl⟩))
  obtain ⟨hg9, rfl, hw9⟩ := h9
  subst ws9
  dsimp only [mPush]
  refine r_i2l hX dL_move_11 ?_
  refine r_putN hX kg_L_13 21 rfl rfl rfl rfl (Nat.le_of_ble_eq_true rfl) dL_move_12 ?_
  refine r_goto (tgt := 26) hX dL_move_15 (by decide) ?_
  refine r_iconst (v := 0) hX dL_move_26 (by decide) ?_
  exact r_iret hX hE dL_move_27 (Nat.le_of_ble_eq_true rfl) (Nat.le_of_ble_eq_true rfl) (Or.inl ⟨hg9, rfl, rfl⟩)
set_option maxHeartbeats 1000000 in
theorem z_L_momentOf (ad ae : Nat → Nat) (cs : ClassId × ClassId × ClassId) (S : mS) (T : mT2) (J : mJ) (rest : va_W) (hS : sWF S) (ao : Nat) (n0 : Int64) (s0 : Value) (a0 : Int) (h0 : rJ a0) (a1 : Int) (h1 : rJ a1)  : mCw (mTy cs) yL_momentOf cL_momentOf 5 (some .int) [(0, 11, 14, 19)] ⟨8, 2, 12, 125⟩ [.ref (ad 0), .int (iZ a0), .int (iZ a1), .ref ao] (mRw ad ae cs (mKof S T) J ((ao, .inr (4, [.long n0, s0])) :: rest)) (fun v ws' => ((((0 ≤ a0 ∧ a0 < 4) ∧ (0 ≤ a1 ∧ a1 < 4)) ∧ (0 ≤ (0 : Int))) ∧ v = some (.int 0) ∧ ws' = (mRw ad ae cs (mKof (oNum S a0.toNat ((sse S a1.toNat - sow S a1.toNat) * 1000000000 + sna S a1.toNat)).2 T) J ((ao, .inr (4, [.long (iZ (oNum S a0.toNat ((sse S a1.toNat - sow S a1.toNat) * 1000000000 + sna S a1.toNat)).1).toInt64, s0])) :: rest))) ∨ (¬ ((0 ≤ a0 ∧ a0 < 4) ∧ (0 ≤ a1 ∧ a1 < 4)) ∧ v = some (.int 1) ∧ ws' = (mRw ad ae cs (mKof S T) J ((ao, .inr (4, [.long n0, s0])) :: rest))) ∨ (((0 ≤ a0 ∧ a0 < 4) ∧ (0 ≤ a1 ∧ a1 < 4)) ∧ ¬ (0 ≤ (0 : Int)) ∧ v = some (.int 2) ∧ ws' = (mRw ad ae cs (mKof S T) J ((ao, .inr (4, [.long n0, s0])) :: rest)))) := by
  refine mCw.of (by decide +kernel) (Nat.le_of_ble_eq_true rfl) (fun X hX hg hE => ?_)
  replace hX : mOK X RL cL_momentOf 5 ⟨8, 2, 12, 125⟩ [(0, 11, 14, 19)] (mTy cs) := hX
  refine r_aload_n hX dL_momentOf_0 rfl rfl ?_
  refine r_aload_n hX dL_momentOf_1 rfl rfl ?_
  refine r_iload_n hX dL_momentOf_2 rfl rfl ?_
  refine r_iload_n hX dL_momentOf_3 rfl rfl ?_
  refine r_callV hX (z_X2_momentOf ad cs S T (mMd ae cs J ((ao, .inr (4, [.long n0, s0])) :: rest)) hS _ h0 _ h1) kv_L_45 0 rfl rfl rfl rfl (Nat.le_of_ble_eq_true rfl) ⟨(Nat.le_of_ble_eq_true rfl), (Nat.le_of_ble_eq_true rfl)⟩ ⟨(Nat.le_of_ble_eq_true rfl), (Nat.le_of_ble_eq_true rfl)⟩ dL_momentOf_4 (fun E ws9 z => ?_) (fun v9 ws9 h9 => ?_)
  · obtain ⟨rfl, ⟨rfl, zi⟩ | ⟨rfl, zi, za⟩⟩ := z
    ·
      refine r_catch1 hX rfl (by decide) kl_L_19 kca_I (fun q => ?_)
      refine r_astore hX dL_momentOf_14 (by decide) rfl ?_
      refine r_iconst (v := 1) hX dL_momentOf_16 (by decide) ?_
      exact r_iret hX hE dL_momentOf_17 (Nat.le_of_ble_eq_true rfl) (Nat.le_of_ble_eq_true rfl) (Or.inr (Or.inl ⟨zi, rfl, rfl⟩))
    · exact absurd (by decide) za
  obtain ⟨hg9, rfl, hw9⟩ := h9
  subst ws9
  dsimp only [mPush]
  refine r_i2l hX dL_momentOf_7 ?_
  refine r_putN hX kg_L_13 21 rfl rfl rfl rfl (Nat.le_of_ble_eq_true rfl) dL_momentOf_8 ?_
  refine r_goto (tgt := 18) hX dL_momentOf_11 (by decide) ?_
  refine r_iconst (v := 0) hX dL_momentOf_18 (by decide) ?_
  exact r_iret hX hE dL_momentOf_19 (Nat.le_of_ble_eq_true rfl) (Nat.le_of_ble_eq_true rfl) (Or.inl ⟨hg9, rfl, rfl⟩)
set_option maxHeartbeats 1000000 in
theorem z_L_ofMoment (ad ae : Nat → Nat) (cs : ClassId × ClassId × ClassId) (S : mS) (T : mT2) (J : mJ) (rest : va_W) (hS : sWF S) (ao : Nat) (n0 : Int64) (s0 : Value) (a0 : Int) (h0 : rJ a0) (b1 : Bool)  : mCw (mTy cs) yL_ofMoment cL_ofMoment 5 (some .int) [(0, 11, 14, 19)] ⟨8, 1, 6, 125⟩ [.ref (ad 0), .int (iZ a0), .int (b2i b1), .ref ao] (mRw ad ae cs (mKof S T) J ((ao, .inr (4, [.long n0, s0])) :: rest)) (fun v ws' => ((((0 ≤ a0 ∧ a0 < 4)) ∧ (0 ≤ (0 : Int))) ∧ v = some (.int 0) ∧ ws' = (mRw ad ae cs (mKof S T) J ((ao, .inr (4, [.long (iZ (cond b1 (snu S a0.toNat % 1000000000) (snu S a0.toNat / 1000000000))).toInt64, s0])) :: rest))) ∨ (¬ ((0 ≤ a0 ∧ a0 < 4)) ∧ v = some (.int 1) ∧ ws' = (mRw ad ae cs (mKof S T) J ((ao, .inr (4, [.long n0, s0])) :: rest))) ∨ (((0 ≤ a0 ∧ a0 < 4)) ∧ ¬ (0 ≤ (0 : Int)) ∧ v = some (.int 2) ∧ ws' = (mRw ad ae cs (mKof S T) J ((ao, .inr (4, [.long n0, s0])) :: rest)))) := by
  refine mCw.of (by decide +kernel) (Nat.le_of_ble_eq_true rfl) (fun X hX hg hE => ?_)
  replace hX : mOK X RL cL_ofMoment 5 ⟨8, 1, 6, 125⟩ [(0, 11, 14, 19)] (mTy cs) := hX
  refine r_aload_n hX dL_ofMoment_0 rfl rfl ?_
  refine r_aload_n hX dL_ofMoment_1 rfl rfl ?_
  refine r_iload_n hX dL_ofMoment_2 rfl rfl ?_
  refine r_iload_n hX dL_ofMoment_3 rfl rfl ?_
  refine r_callV hX (z_X2_ofMoment ad cs S T (mMd ae cs J ((ao, .inr (4, [.long n0, s0])) :: rest)) hS _ h0 _) kv_L_48 0 rfl rfl rfl rfl (Nat.le_of_ble_eq_true rfl) ⟨(Nat.le_of_ble_eq_true rfl), (Nat.le_of_ble_eq_true rfl)⟩ ⟨(Nat.le_of_ble_eq_true rfl), (Nat.le_of_ble_eq_true rfl)⟩ dL_ofMoment_4 (fun E ws9 z => ?_) (fun v9 ws9 h9 => ?_)
  · obtain ⟨rfl, ⟨rfl, zi⟩ | ⟨rfl, zi, za⟩⟩ := z
    ·
      refine r_catch1 hX rfl (by decide) kl_L_19 kca_I (fun q => ?_)
      refine r_astore hX dL_ofMoment_14 (by decide) rfl ?_
      refine r_iconst (v := 1) hX dL_ofMoment_16 (by decide) ?_
      exact r_iret hX hE dL_ofMoment_17 (Nat.le_of_ble_eq_true rfl) (Nat.le_of_ble_eq_true rfl) (Or.inr (Or.inl ⟨zi, rfl, rfl⟩))
    · exact absurd (by decide) za
  obtain ⟨hg9, rfl, hw9⟩ := h9
  subst ws9
  dsimp only [mPush]
  refine r_i2l hX dL_ofMoment_7 ?_
  refine r_putN hX kg_L_13 21 rfl rfl rfl rfl (Nat.le_of_ble_eq_true rfl) dL_ofMoment_8 ?_
  refine r_goto (tgt := 18) hX dL_ofMoment_11 (by decide) ?_
  refine r_iconst (v := 0) hX dL_ofMoment_18 (by decide) ?_
  exact r_iret hX hE dL_ofMoment_19 (Nat.le_of_ble_eq_true rfl) (Nat.le_of_ble_eq_true rfl) (Or.inl ⟨hg9, rfl, rfl⟩)
set_option maxHeartbeats 1000000 in
theorem z_L_orderMoment (ad ae : Nat → Nat) (cs : ClassId × ClassId × ClassId) (S : mS) (T : mT2) (J : mJ) (rest : va_W) (hS : sWF S) (ao : Nat) (n0 : Int64) (s0 : Value) (a0 : Int) (h0 : rJ a0) (a1 : Int) (h1 : rJ a1)  : mCw (mTy cs) yL_orderMoment cL_orderMoment 5 (some .int) [(0, 11, 14, 19)] ⟨8, 2, 12, 125⟩ [.ref (ad 0), .int (iZ a0), .int (iZ a1), .ref ao] (mRw ad ae cs (mKof S T) J ((ao, .inr (4, [.long n0, s0])) :: rest)) (fun v ws' => ((((0 ≤ a0 ∧ a0 < 4) ∧ (0 ≤ a1 ∧ a1 < 4)) ∧ (0 ≤ (0 : Int))) ∧ v = some (.int 0) ∧ ws' = (mRw ad ae cs (mKof S T) J ((ao, .inr (4, [.long (iZ (cmpZ (snu S a0.toNat) (snu S a1.toNat))).toInt64, s0])) :: rest))) ∨ (¬ ((0 ≤ a0 ∧ a0 < 4) ∧ (0 ≤ a1 ∧ a1 < 4)) ∧ v = some (.int 1) ∧ ws' = (mRw ad ae cs (mKof S T) J ((ao, .inr (4, [.long n0, s0])) :: rest))) ∨ (((0 ≤ a0 ∧ a0 < 4) ∧ (0 ≤ a1 ∧ a1 < 4)) ∧ ¬ (0 ≤ (0 : Int)) ∧ v = some (.int 2) ∧ ws' = (mRw ad ae cs (mKof S T) J ((ao, .inr (4, [.long n0, s0])) :: rest)))) := by
  refine mCw.of (by decide +kernel) (Nat.le_of_ble_eq_true rfl) (fun X hX hg hE => ?_)
  replace hX : mOK X RL cL_orderMoment 5 ⟨8, 2, 12, 125⟩ [(0, 11, 14, 19)] (mTy cs) := hX
  refine r_aload_n hX dL_orderMoment_0 rfl rfl ?_
  refine r_aload_n hX dL_orderMoment_1 rfl rfl ?_
  refine r_iload_n hX dL_orderMoment_2 rfl rfl ?_
  refine r_iload_n hX dL_orderMoment_3 rfl rfl ?_
  refine r_callV hX (z_X2_orderMoment ad cs S T (mMd ae cs J ((ao, .inr (4, [.long n0, s0])) :: rest)) hS _ h0 _ h1) kv_L_60 0 rfl rfl rfl rfl (Nat.le_of_ble_eq_true rfl) ⟨(Nat.le_of_ble_eq_true rfl), (Nat.le_of_ble_eq_true rfl)⟩ ⟨(Nat.le_of_ble_eq_true rfl), (Nat.le_of_ble_eq_true rfl)⟩ dL_orderMoment_4 (fun E ws9 z => ?_) (fun v9 ws9 h9 => ?_)
  · obtain ⟨rfl, ⟨rfl, zi⟩ | ⟨rfl, zi, za⟩⟩ := z
    ·
      refine r_catch1 hX rfl (by decide) kl_L_19 kca_I (fun q => ?_)
      refine r_astore hX dL_orderMoment_14 (by decide) rfl ?_
      refine r_iconst (v := 1) hX dL_orderMoment_16 (by decide) ?_
      exact r_iret hX hE dL_orderMoment_17 (Nat.le_of_ble_eq_true rfl) (Nat.le_of_ble_eq_true rfl) (Or.inr (Or.inl ⟨zi, rfl, rfl⟩))
    · exact absurd (by decide) za
  obtain ⟨hg9, rfl, hw9⟩ := h9
  subst ws9
  dsimp only [mPush]
  refine r_i2l hX dL_orderMoment_7 ?_
  refine r_putN hX kg_L_13 21 rfl rfl rfl rfl (Nat.le_of_ble_eq_true rfl) dL_orderMoment_8 ?_
  refine r_goto (tgt := 18) hX dL_orderMoment_11 (by decide) ?_
  refine r_iconst (v := 0) hX dL_orderMoment_18 (by decide) ?_
  exact r_iret hX hE dL_orderMoment_19 (Nat.le_of_ble_eq_true rfl) (Nat.le_of_ble_eq_true rfl) (Or.inl ⟨hg9, rfl, rfl⟩)
set_option maxHeartbeats 1000000 in
theorem z_L_isMoment (ad ae : Nat → Nat) (cs : ClassId × ClassId × ClassId) (S : mS) (T : mT2) (J : mJ) (rest : va_W) (hS : sWF S) (ao : Nat) (n0 : Int64) (s0 : Value) (a0 : Int) (h0 : rJ a0) (a1 : Int) (h1 : rJ a1) (a2 : Int) (h2 : rJ a2)  : mCw (mTy cs) yL_isMoment cL_isMoment 6 (some .int) [(0, 20, 23, 19), (0, 20, 27, 21)] ⟨9, 3, 18, 149⟩ [.ref (ad 0), .int (iZ a0), .int (iZ a1), .int (iZ a2), .ref ao] (mRw ad ae cs (mKof S T) J ((ao, .inr (4, [.long n0, s0])) :: rest)) (fun v ws' => ((((0 ≤ a0 ∧ a0 < 4) ∧ (0 ≤ a1 ∧ a1 < 4)) ∧ (0 ≤ a2 ∧ a2 ≤ 2)) ∧ v = some (.int 0) ∧ ws' = (mRw ad ae cs (mKof S T) J ((ao, .inr (4, [.long (cond (zIs (cmpZ (snu S a0.toNat) (snu S a1.toNat)) a2) 1 0), s0])) :: rest))) ∨ (¬ ((0 ≤ a0 ∧ a0 < 4) ∧ (0 ≤ a1 ∧ a1 < 4)) ∧ v = some (.int 1) ∧ ws' = (mRw ad ae cs (mKof S T) J ((ao, .inr (4, [.long n0, s0])) :: rest))) ∨ (((0 ≤ a0 ∧ a0 < 4) ∧ (0 ≤ a1 ∧ a1 < 4)) ∧ ¬ (0 ≤ a2 ∧ a2 ≤ 2) ∧ v = some (.int 2) ∧ ws' = (mRw ad ae cs (mKof S T) J ((ao, .inr (4, [.long n0, s0])) :: rest)))) := by
  refine mCw.of (by decide +kernel) (Nat.le_of_ble_eq_true rfl) (fun X hX hg hE => ?_)
  replace hX : mOK X RL cL_isMoment 6 ⟨9, 3, 18, 149⟩ [(0, 20, 23, 19), (0, 20, 27, 21)] (mTy cs) := hX
  refine r_aload hX dL_isMoment_0 rfl ?_
  refine r_aload_n hX dL_isMoment_2 rfl rfl ?_
  refine r_iload_n hX dL_isMoment_3 rfl rfl ?_
  refine r_iload_n hX dL_isMoment_4 rfl rfl ?_
  refine r_iload_n hX dL_isMoment_5 rfl rfl ?_
  refine r_callV hX (z_X2_isMoment ad cs S T (mMd ae cs J ((ao, .inr (4, [.long n0, s0])) :: rest)) hS _ h0 _ h1 _ h2) kv_L_63 0 rfl rfl rfl rfl (Nat.le_of_ble_eq_true rfl) ⟨(Nat.le_of_ble_eq_true rfl), (Nat.le_of_ble_eq_true rfl)⟩ ⟨(Nat.le_of_ble_eq_true rfl), (Nat.le_of_ble_eq_true rfl)⟩ dL_isMoment_6 (fun E ws9 z => ?_) (fun v9 ws9 h9 => ?_)
  · obtain ⟨rfl, ⟨rfl, zi⟩ | ⟨rfl, zi, za⟩⟩ := z
    ·
      refine r_catch1 hX rfl (by decide) kl_L_19 kca_I (fun q => ?_)
      refine r_astore hX dL_isMoment_23 (by decide) rfl ?_
      refine r_iconst (v := 1) hX dL_isMoment_25 (by decide) ?_
      exact r_iret hX hE dL_isMoment_26 (Nat.le_of_ble_eq_true rfl) (Nat.le_of_ble_eq_true rfl) (Or.inr (Or.inl ⟨zi, rfl, rfl⟩))
    ·
      refine r_catch2 hX hg (by decide) kl_L_19 rfl (by decide) kl_L_21 (fun q => ?_)
      refine r_astore hX dL_isMoment_27 (by decide) rfl ?_
      refine r_iconst (v := 2) hX dL_isMoment_29 (by decide) ?_
      exact r_iret hX hE dL_isMoment_30 (Nat.le_of_ble_eq_true rfl) (Nat.le_of_ble_eq_true rfl) (Or.inr (Or.inr ⟨zi, za, rfl, rfl⟩))
  obtain ⟨hg9, rfl, hw9⟩ := h9
  subst ws9
  dsimp only [mPush]
  refine r_if_eqB (tgt := 16) hX dL_isMoment_9 (by decide) (fun c => ?_) (fun c => ?_)
  · refine r_lconst (v := 0) hX dL_isMoment_16 (by decide) ?_
    refine r_putN hX kg_L_13 21 rfl rfl rfl rfl (Nat.le_of_ble_eq_true rfl) dL_isMoment_17 ?_
    refine r_goto (tgt := 31) hX dL_isMoment_20 (by decide) ?_
    refine r_iconst (v := 0) hX dL_isMoment_31 (by decide) ?_
    exact r_iret hX hE dL_isMoment_32 (Nat.le_of_ble_eq_true rfl) (Nat.le_of_ble_eq_true rfl) (Or.inl ⟨hg9, rfl, by rw [c]; rfl⟩)
  · refine r_lconst (v := 1) hX dL_isMoment_12 (by decide) ?_
    refine r_goto (tgt := 17) hX dL_isMoment_13 (by decide) ?_
    refine r_putN hX kg_L_13 21 rfl rfl rfl rfl (Nat.le_of_ble_eq_true rfl) dL_isMoment_17 ?_
    refine r_goto (tgt := 31) hX dL_isMoment_20 (by decide) ?_
    refine r_iconst (v := 0) hX dL_isMoment_31 (by decide) ?_
    exact r_iret hX hE dL_isMoment_32 (Nat.le_of_ble_eq_true rfl) (Nat.le_of_ble_eq_true rfl) (Or.inl ⟨hg9, rfl, by rw [c]; rfl⟩)
set_option maxHeartbeats 1000000 in
theorem z_L_copyMoment (ad ae : Nat → Nat) (cs : ClassId × ClassId × ClassId) (S : mS) (T : mT2) (J : mJ) (rest : va_W) (hS : sWF S) (ao : Nat) (n0 : Int64) (s0 : Value) (a0 : Int) (h0 : rJ a0) (a1 : Int) (h1 : rJ a1)  : mCw (mTy cs) yL_copyMoment cL_copyMoment 5 (some .int) [(0, 11, 14, 19)] ⟨8, 2, 12, 125⟩ [.ref (ad 0), .int (iZ a0), .int (iZ a1), .ref ao] (mRw ad ae cs (mKof S T) J ((ao, .inr (4, [.long n0, s0])) :: rest)) (fun v ws' => ((((0 ≤ a0 ∧ a0 < 4) ∧ (0 ≤ a1 ∧ a1 < 4)) ∧ (0 ≤ (0 : Int))) ∧ v = some (.int 0) ∧ ws' = (mRw ad ae cs (mKof (oNum S a0.toNat (snu S a1.toNat)).2 T) J ((ao, .inr (4, [.long (iZ (oNum S a0.toNat (snu S a1.toNat)).1).toInt64, s0])) :: rest))) ∨ (¬ ((0 ≤ a0 ∧ a0 < 4) ∧ (0 ≤ a1 ∧ a1 < 4)) ∧ v = some (.int 1) ∧ ws' = (mRw ad ae cs (mKof S T) J ((ao, .inr (4, [.long n0, s0])) :: rest))) ∨ (((0 ≤ a0 ∧ a0 < 4) ∧ (0 ≤ a1 ∧ a1 < 4)) ∧ ¬ (0 ≤ (0 : Int)) ∧ v = some (.int 2) ∧ ws' = (mRw ad ae cs (mKof S T) J ((ao, .inr (4, [.long n0, s0])) :: rest)))) := by
  refine mCw.of (by decide +kernel) (Nat.le_of_ble_eq_true rfl) (fun X hX hg hE => ?_)
  replace hX : mOK X RL cL_copyMoment 5 ⟨8, 2, 12, 125⟩ [(0, 11, 14, 19)] (mTy cs) := hX
  refine r_aload_n hX dL_copyMoment_0 rfl rfl ?_
  refine r_aload_n hX dL_copyMoment_1 rfl rfl ?_
  refine r_iload_n hX dL_copyMoment_2 rfl rfl ?_
  refine r_iload_n hX dL_copyMoment_3 rfl rfl ?_
  refine r_callV hX (z_X2_copyMoment ad cs S T (mMd ae cs J ((ao, .inr (4, [.long n0, s0])) :: rest)) hS _ h0 _ h1) kv_L_67 0 rfl rfl rfl rfl (Nat.le_of_ble_eq_true rfl) ⟨(Nat.le_of_ble_eq_true rfl), (Nat.le_of_ble_eq_true rfl)⟩ ⟨(Nat.le_of_ble_eq_true rfl), (Nat.le_of_ble_eq_true rfl)⟩ dL_copyMoment_4 (fun E ws9 z => ?_) (fun v9 ws9 h9 => ?_)
  · obtain ⟨rfl, ⟨rfl, zi⟩ | ⟨rfl, zi, za⟩⟩ := z
    ·
      refine r_catch1 hX rfl (by decide) kl_L_19 kca_I (fun q => ?_)
      refine r_astore hX dL_copyMoment_14 (by decide) rfl ?_
      refine r_iconst (v := 1) hX dL_copyMoment_16 (by decide) ?_
      exact r_iret hX hE dL_copyMoment_17 (Nat.le_of_ble_eq_true rfl) (Nat.le_of_ble_eq_true rfl) (Or.inr (Or.inl ⟨zi, rfl, rfl⟩))
    · exact absurd (by decide) za
  obtain ⟨hg9, rfl, hw9⟩ := h9
  subst ws9
  dsimp only [mPush]
  refine r_i2l hX dL_copyMoment_7 ?_
  refine r_putN hX kg_L_13 21 rfl rfl rfl rfl (Nat.le_of_ble_eq_true rfl) dL_copyMoment_8 ?_
  refine r_goto (tgt := 18) hX dL_copyMoment_11 (by decide) ?_
  refine r_iconst (v := 0) hX dL_copyMoment_18 (by decide) ?_
  exact r_iret hX hE dL_copyMoment_19 (Nat.le_of_ble_eq_true rfl) (Nat.le_of_ble_eq_true rfl) (Or.inl ⟨hg9, rfl, rfl⟩)
set_option maxHeartbeats 1000000 in
theorem z_L_date (ad ae : Nat → Nat) (cs : ClassId × ClassId × ClassId) (S : mS) (T : mT2) (J : mJ) (rest : va_W) (hS : sWF S) (ao : Nat) (n0 : Int64) (s0 : Value) (a0 : Int) (h0 : rJ a0) (a1 : Int) (h1 : rJ a1) (a2 : Int) (h2 : rJ a2) (a3 : Int) (h3 : rJ a3) (a4 : Int) (h4 : rJ a4) (a5 : Int) (h5 : rJ a5)  : mCw (mTy cs) yL_date cL_date 9 (some .int) [(0, 19, 22, 19), (0, 19, 26, 21)] ⟨9, 5, 30, 154⟩ [.ref (ad 0), .int (iZ a0), .int (iZ a1), .int (iZ a2), .int (iZ a3), .int (iZ a4), .int (iZ a5), .ref ao] (mRw ad ae cs (mKof S T) J ((ao, .inr (4, [.long n0, s0])) :: rest)) (fun v ws' => ((((0 ≤ a0 ∧ a0 < 4) ∧ (0 ≤ a5 ∧ a5 < 4)) ∧ ((0 ≤ a2 ∧ a2 ≤ 9999) ∧ (0 ≤ a3 ∧ a3 ≤ 86399) ∧ (0 ≤ a4 ∧ a4 ≤ 999999999))) ∧ v = some (.int 0) ∧ ws' = (mRw ad ae cs (mKof (oDate S a0.toNat a1 a2 a3 a4 (sof S a5.toNat)).2 T) J ((ao, .inr (4, [.long (iZ (oDate S a0.toNat a1 a2 a3 a4 (sof S a5.toNat)).1).toInt64, s0])) :: rest))) ∨ (¬ ((0 ≤ a0 ∧ a0 < 4) ∧ (0 ≤ a5 ∧ a5 < 4)) ∧ v = some (.int 1) ∧ ws' = (mRw ad ae cs (mKof S T) J ((ao, .inr (4, [.long n0, s0])) :: rest))) ∨ (((0 ≤ a0 ∧ a0 < 4) ∧ (0 ≤ a5 ∧ a5 < 4)) ∧ ¬ ((0 ≤ a2 ∧ a2 ≤ 9999) ∧ (0 ≤ a3 ∧ a3 ≤ 86399) ∧ (0 ≤ a4 ∧ a4 ≤ 999999999)) ∧ v = some (.int 2) ∧ ws' = (mRw ad ae cs (mKof S T) J ((ao, .inr (4, [.long n0, s0])) :: rest)))) := by
  refine mCw.of (by decide +kernel) (Nat.le_of_ble_eq_true rfl) (fun X hX hg hE => ?_)
  replace hX : mOK X RL cL_date 9 ⟨9, 5, 30, 154⟩ [(0, 19, 22, 19), (0, 19, 26, 21)] (mTy cs) := hX
  refine r_aload hX dL_date_0 rfl ?_
  refine r_aload_n hX dL_date_2 rfl rfl ?_
  refine r_iload_n hX dL_date_3 rfl rfl ?_
  refine r_iload_n hX dL_date_4 rfl rfl ?_
  refine r_iload_n hX dL_date_5 rfl rfl ?_
  refine r_iload hX dL_date_6 rfl ?_
  refine r_iload hX dL_date_8 rfl ?_
  refine r_iload hX dL_date_10 rfl ?_
  refine r_callV hX (z_X2_date ad cs S T (mMd ae cs J ((ao, .inr (4, [.long n0, s0])) :: rest)) hS _ h0 _ h1 _ h2 _ h3 _ h4 _ h5) kv_L_70 0 rfl rfl rfl rfl (Nat.le_of_ble_eq_true rfl) ⟨(Nat.le_of_ble_eq_true rfl), (Nat.le_of_ble_eq_true rfl)⟩ ⟨(Nat.le_of_ble_eq_true rfl), (Nat.le_of_ble_eq_true rfl)⟩ dL_date_12 (fun E ws9 z => ?_) (fun v9 ws9 h9 => ?_)
  · obtain ⟨rfl, ⟨rfl, zi⟩ | ⟨rfl, zi, za⟩⟩ := z
    ·
      refine r_catch1 hX rfl (by decide) kl_L_19 kca_I (fun q => ?_)
      refine r_astore hX dL_date_22 (by decide) rfl ?_
      refine r_iconst (v := 1) hX dL_date_24 (by decide) ?_
      exact r_iret hX hE dL_date_25 (Nat.le_of_ble_eq_true rfl) (Nat.le_of_ble_eq_true rfl) (Or.inr (Or.inl ⟨zi, rfl, rfl⟩))
    ·
      refine r_catch2 hX hg (by decide) kl_L_19 rfl (by decide) kl_L_21 (fun q => ?_)
      refine r_astore hX dL_date_26 (by decide) rfl ?_
      refine r_iconst (v := 2) hX dL_date_28 (by decide) ?_
      exact r_iret hX hE dL_date_29 (Nat.le_of_ble_eq_true rfl) (Nat.le_of_ble_eq_true rfl) (Or.inr (Or.inr ⟨zi, za, rfl, rfl⟩))
  obtain ⟨hg9, rfl, hw9⟩ := h9
  subst ws9
  dsimp only [mPush]
  refine r_i2l hX dL_date_15 ?_
  refine r_putN hX kg_L_13 21 rfl rfl rfl rfl (Nat.le_of_ble_eq_true rfl) dL_date_16 ?_
  refine r_goto (tgt := 30) hX dL_date_19 (by decide) ?_
  refine r_iconst (v := 0) hX dL_date_30 (by decide) ?_
  exact r_iret hX hE dL_date_31 (Nat.le_of_ble_eq_true rfl) (Nat.le_of_ble_eq_true rfl) (Or.inl ⟨hg9, rfl, rfl⟩)
set_option maxHeartbeats 1000000 in
theorem z_L_dateOf (ad ae : Nat → Nat) (cs : ClassId × ClassId × ClassId) (S : mS) (T : mT2) (J : mJ) (rest : va_W) (hS : sWF S) (ao : Nat) (n0 : Int64) (s0 : Value) (a0 : Int) (h0 : rJ a0) (a1 : Int) (h1 : rJ a1) (a2 : Int) (h2 : rJ a2)  : mCw (mTy cs) yL_dateOf cL_dateOf 6 (some .int) [(0, 13, 16, 19)] ⟨9, 3, 18, 151⟩ [.ref (ad 0), .int (iZ a0), .int (iZ a1), .int (iZ a2), .ref ao] (mRw ad ae cs (mKof S T) J ((ao, .inr (4, [.long n0, s0])) :: rest)) (fun v ws' => ((((0 ≤ a0 ∧ a0 < 4) ∧ (0 ≤ a1 ∧ a1 < 4) ∧ (0 ≤ a2 ∧ a2 < 4)) ∧ (0 ≤ (0 : Int))) ∧ v = some (.int 0) ∧ ws' = (mRw ad ae cs (mKof (oLoc S a0.toNat (snu S a1.toNat / 1000000000 + sof S a2.toNat) (snu S a1.toNat % 1000000000) (sof S a2.toNat)).2 T) J ((ao, .inr (4, [.long (iZ (oLoc S a0.toNat (snu S a1.toNat / 1000000000 + sof S a2.toNat) (snu S a1.toNat % 1000000000) (sof S a2.toNat)).1).toInt64, s0])) :: rest))) ∨ (¬ ((0 ≤ a0 ∧ a0 < 4) ∧ (0 ≤ a1 ∧ a1 < 4) ∧ (0 ≤ a2 ∧ a2 < 4)) ∧ v = some (.int 1) ∧ ws' = (mRw ad ae cs (mKof S T) J ((ao, .inr (4, [.long n0, s0])) :: rest))) ∨ (((0 ≤ a0 ∧ a0 < 4) ∧ (0 ≤ a1 ∧ a1 < 4) ∧ (0 ≤ a2 ∧ a2 < 4)) ∧ ¬ (0 ≤ (0 : Int)) ∧ v = some (.int 2) ∧ ws' = (mRw ad ae cs (mKof S T) J ((ao, .inr (4, [.long n0, s0])) :: rest)))) := by
  refine mCw.of (by decide +kernel) (Nat.le_of_ble_eq_true rfl) (fun X hX hg hE => ?_)
  replace hX : mOK X RL cL_dateOf 6 ⟨9, 3, 18, 151⟩ [(0, 13, 16, 19)] (mTy cs) := hX
  refine r_aload hX dL_dateOf_0 rfl ?_
  refine r_aload_n hX dL_dateOf_2 rfl rfl ?_
  refine r_iload_n hX dL_dateOf_3 rfl rfl ?_
  refine r_iload_n hX dL_dateOf_4 rfl rfl ?_
  refine r_iload_n hX dL_dateOf_5 rfl rfl ?_
  refine r_callV hX (z_X2_dateOf ad cs S T (mMd ae cs J ((ao, .inr (4, [.long n0, s0])) :: rest)) hS _ h0 _ h1 _ h2) kv_L_74 0 rfl rfl rfl rfl (Nat.le_of_ble_eq_true rfl) ⟨(Nat.le_of_ble_eq_true rfl), (Nat.le_of_ble_eq_true rfl)⟩ ⟨(Nat.le_of_ble_eq_true rfl), (Nat.le_of_ble_eq_true rfl)⟩ dL_dateOf_6 (fun E ws9 z => ?_) (fun v9 ws9 h9 => ?_)
  · obtain ⟨rfl, ⟨rfl, zi⟩ | ⟨rfl, zi, za⟩⟩ := z
    ·
      refine r_catch1 hX rfl (by decide) kl_L_19 kca_I (fun q => ?_)
      refine r_astore hX dL_dateOf_16 (by decide) rfl ?_
      refine r_iconst (v := 1) hX dL_dateOf_18 (by decide) ?_
      exact r_iret hX hE dL_dateOf_19 (Nat.le_of_ble_eq_true rfl) (Nat.le_of_ble_eq_true rfl) (Or.inr (Or.inl ⟨zi, rfl, rfl⟩))
    · exact absurd (by decide) za
  obtain ⟨hg9, rfl, hw9⟩ := h9
  subst ws9
  dsimp only [mPush]
  refine r_i2l hX dL_dateOf_9 ?_
  refine r_putN hX kg_L_13 21 rfl rfl rfl rfl (Nat.le_of_ble_eq_true rfl) dL_dateOf_10 ?_
  refine r_goto (tgt := 20) hX dL_dateOf_13 (by decide) ?_
  refine r_iconst (v := 0) hX dL_dateOf_20 (by decide) ?_
  exact r_iret hX hE dL_dateOf_21 (Nat.le_of_ble_eq_true rfl) (Nat.le_of_ble_eq_true rfl) (Or.inl ⟨hg9, rfl, rfl⟩)
set_option maxHeartbeats 1000000 in
theorem z_L_moveDate (ad ae : Nat → Nat) (cs : ClassId × ClassId × ClassId) (S : mS) (T : mT2) (J : mJ) (rest : va_W) (hS : sWF S) (ao : Nat) (n0 : Int64) (s0 : Value) (a0 : Int) (h0 : rJ a0) (a1 : Int) (h1 : rJ a1) (a2 : Int) (h2 : rJ a2) (b3 : Bool)  : mCw (mTy cs) yL_moveDate cL_moveDate 7 (some .int) [(0, 15, 18, 19), (0, 15, 22, 21)] ⟨8, 2, 12, 147⟩ [.ref (ad 0), .int (iZ a0), .int (iZ a1), .int (iZ a2), .int (b2i b3), .ref ao] (mRw ad ae cs (mKof S T) J ((ao, .inr (4, [.long n0, s0])) :: rest)) (fun v ws' => ((((0 ≤ a0 ∧ a0 < 4)) ∧ (0 ≤ a1 ∧ a1 ≤ 7)) ∧ v = some (.int 0) ∧ ws' = (mRw ad ae cs (mKof (oMv S a0.toNat a1 (zSg a2 b3)).2 T) J ((ao, .inr (4, [.long (iZ (oMv S a0.toNat a1 (zSg a2 b3)).1).toInt64, s0])) :: rest))) ∨ (¬ ((0 ≤ a0 ∧ a0 < 4)) ∧ v = some (.int 1) ∧ ws' = (mRw ad ae cs (mKof S T) J ((ao, .inr (4, [.long n0, s0])) :: rest))) ∨ (((0 ≤ a0 ∧ a0 < 4)) ∧ ¬ (0 ≤ a1 ∧ a1 ≤ 7) ∧ v = some (.int 2) ∧ ws' = (mRw ad ae cs (mKof S T) J ((ao, .inr (4, [.long n0, s0])) :: rest)))) := by
  refine mCw.of (by decide +kernel) (Nat.le_of_ble_eq_true rfl) (fun X hX hg hE => ?_)
  replace hX : mOK X RL cL_moveDate 7 ⟨8, 2, 12, 147⟩ [(0, 15, 18, 19), (0, 15, 22, 21)] (mTy cs) := hX
  refine r_aload hX dL_moveDate_0 rfl ?_
  refine r_aload_n hX dL_moveDate_2 rfl rfl ?_
  refine r_iload_n hX dL_moveDate_3 rfl rfl ?_
  refine r_iload_n hX dL_moveDate_4 rfl rfl ?_
  refine r_iload_n hX dL_moveDate_5 rfl rfl ?_
  refine r_iload hX dL_moveDate_6 rfl ?_
  refine r_callV hX (z_X2_moveDate ad cs S T (mMd ae cs J ((ao, .inr (4, [.long n0, s0])) :: rest)) hS _ h0 _ h1 _ h2 _) kv_L_77 0 rfl rfl rfl rfl (Nat.le_of_ble_eq_true rfl) ⟨(Nat.le_of_ble_eq_true rfl), (Nat.le_of_ble_eq_true rfl)⟩ ⟨(Nat.le_of_ble_eq_true rfl), (Nat.le_of_ble_eq_true rfl)⟩ dL_moveDate_8 (fun E ws9 z => ?_) (fun v9 ws9 h9 => ?_)
  · obtain ⟨rfl, ⟨rfl, zi⟩ | ⟨rfl, zi, za⟩⟩ := z
    ·
      refine r_catch1 hX rfl (by decide) kl_L_19 kca_I (fun q => ?_)
      refine r_astore hX dL_moveDate_18 (by decide) rfl ?_
      refine r_iconst (v := 1) hX dL_moveDate_20 (by decide) ?_
      exact r_iret hX hE dL_moveDate_21 (Nat.le_of_ble_eq_true rfl) (Nat.le_of_ble_eq_true rfl) (Or.inr (Or.inl ⟨zi, rfl, rfl⟩))
    ·
      refine r_catch2 hX hg (by decide) kl_L_19 rfl (by decide) kl_L_21 (fun q => ?_)
      refine r_astore hX dL_moveDate_22 (by decide) rfl ?_
      refine r_iconst (v := 2) hX dL_moveDate_24 (by decide) ?_
      exact r_iret hX hE dL_moveDate_25 (Nat.le_of_ble_eq_true rfl) (Nat.le_of_ble_eq_true rfl) (Or.inr (Or.inr ⟨zi, za, rfl, rfl⟩))
  obtain ⟨hg9, rfl, hw9⟩ := h9
  subst ws9
  dsimp only [mPush]
  refine r_i2l hX dL_moveDate_11 ?_
  refine r_putN hX kg_L_13 21 rfl rfl rfl rfl (Nat.le_of_ble_eq_true rfl) dL_moveDate_12 ?_
  refine r_goto (tgt := 26) hX dL_moveDate_15 (by decide) ?_
  refine r_iconst (v := 0) hX dL_moveDate_26 (by decide) ?_
  exact r_iret hX hE dL_moveDate_27 (Nat.le_of_ble_eq_true rfl) (Nat.le_of_ble_eq_true rfl) (Or.inl ⟨hg9, rfl, rfl⟩)
set_option maxHeartbeats 1000000 in
theorem z_L_set (ad ae : Nat → Nat) (cs : ClassId × ClassId × ClassId) (S : mS) (T : mT2) (J : mJ) (rest : va_W) (hS : sWF S) (ao : Nat) (n0 : Int64) (s0 : Value) (a0 : Int) (h0 : rJ a0) (a1 : Int) (h1 : rJ a1) (a2 : Int) (h2 : rJ a2)  : mCw (mTy cs) yL_set cL_set 6 (some .int) [(0, 13, 16, 19), (0, 13, 20, 21)] ⟨8, 2, 12, 169⟩ [.ref (ad 0), .int (iZ a0), .int (iZ a1), .int (iZ a2), .ref ao] (mRw ad ae cs (mKof S T) J ((ao, .inr (4, [.long n0, s0])) :: rest)) (fun v ws' => ((((0 ≤ a0 ∧ a0 < 4)) ∧ (0 ≤ a1 ∧ a1 ≤ 7)) ∧ v = some (.int 0) ∧ ws' = (mRw ad ae cs (mKof (oSet S a0.toNat a1 a2).2 T) J ((ao, .inr (4, [.long (iZ (oSet S a0.toNat a1 a2).1).toInt64, s0])) :: rest))) ∨ (¬ ((0 ≤ a0 ∧ a0 < 4)) ∧ v = some (.int 1) ∧ ws' = (mRw ad ae cs (mKof S T) J ((ao, .inr (4, [.long n0, s0])) :: rest))) ∨ (((0 ≤ a0 ∧ a0 < 4)) ∧ ¬ (0 ≤ a1 ∧ a1 ≤ 7) ∧ v = some (.int 2) ∧ ws' = (mRw ad ae cs (mKof S T) J ((ao, .inr (4, [.long n0, s0])) :: rest)))) := by
  refine mCw.of (by decide +kernel) (Nat.le_of_ble_eq_true rfl) (fun X hX hg hE => ?_)
  replace hX : mOK X RL cL_set 6 ⟨8, 2, 12, 169⟩ [(0, 13, 16, 19), (0, 13, 20, 21)] (mTy cs) := hX
  refine r_aload hX dL_set_0 rfl ?_
  refine r_aload_n hX dL_set_2 rfl rfl ?_
  refine r_iload_n hX dL_set_3 rfl rfl ?_
  refine r_iload_n hX dL_set_4 rfl rfl ?_
  refine r_iload_n hX dL_set_5 rfl rfl ?_
  refine r_callV hX (z_X2_set ad cs S T (mMd ae cs J ((ao, .inr (4, [.long n0, s0])) :: rest)) hS _ h0 _ h1 _ h2) kv_L_80 0 rfl rfl rfl rfl (Nat.le_of_ble_eq_true rfl) ⟨(Nat.le_of_ble_eq_true rfl), (Nat.le_of_ble_eq_true rfl)⟩ ⟨(Nat.le_of_ble_eq_true rfl), (Nat.le_of_ble_eq_true rfl)⟩ dL_set_6 (fun E ws9 z => ?_) (fun v9 ws9 h9 => ?_)
  · obtain ⟨rfl, ⟨rfl, zi⟩ | ⟨rfl, zi, za⟩⟩ := z
    ·
      refine r_catch1 hX rfl (by decide) kl_L_19 kca_I (fun q => ?_)
      refine r_astore hX dL_set_16 (by decide) rfl ?_
      refine r_iconst (v := 1) hX dL_set_18 (by decide) ?_
      exact r_iret hX hE dL_set_19 (Nat.le_of_ble_eq_true rfl) (Nat.le_of_ble_eq_true rfl) (Or.inr (Or.inl ⟨zi, rfl, rfl⟩))
    ·
      refine r_catch2 hX hg (by decide) kl_L_19 rfl (by decide) kl_L_21 (fun q => ?_)
      refine r_astore hX dL_set_20 (by decide) rfl ?_
      refine r_iconst (v := 2) hX dL_set_22 (by decide) ?_
      exact r_iret hX hE dL_set_23 (Nat.le_of_ble_eq_true rfl) (Nat.le_of_ble_eq_true rfl) (Or.inr (Or.inr ⟨zi, za, rfl, rfl⟩))
  obtain ⟨hg9, rfl, hw9⟩ := h9
  subst ws9
  dsimp only [mPush]
  refine r_i2l hX dL_set_9 ?_
  refine r_putN hX kg_L_13 21 rfl rfl rfl rfl (Nat.le_of_ble_eq_true rfl) dL_set_10 ?_
  refine r_goto (tgt := 24) hX dL_set_13 (by decide) ?_
  refine r_iconst (v := 0) hX dL_set_24 (by decide) ?_
  exact r_iret hX hE dL_set_25 (Nat.le_of_ble_eq_true rfl) (Nat.le_of_ble_eq_true rfl) (Or.inl ⟨hg9, rfl, rfl⟩)
set_option maxHeartbeats 1000000 in
theorem z_L_anew (ad ae : Nat → Nat) (cs : ClassId × ClassId × ClassId) (S : mS) (T : mT2) (J : mJ) (rest : va_W) (hS : sWF S) (ao : Nat) (n0 : Int64) (s0 : Value) (a0 : Int) (h0 : rJ a0) (a1 : Int) (h1 : rJ a1) (b2 : Bool)  : mCw (mTy cs) yL_anew cL_anew 6 (some .int) [(0, 13, 16, 19)] ⟨9, 2, 12, 151⟩ [.ref (ad 0), .int (iZ a0), .int (iZ a1), .int (b2i b2), .ref ao] (mRw ad ae cs (mKof S T) J ((ao, .inr (4, [.long n0, s0])) :: rest)) (fun v ws' => ((((0 ≤ a0 ∧ a0 < 4) ∧ (0 ≤ a1 ∧ a1 < 4)) ∧ (0 ≤ (0 : Int))) ∧ v = some (.int 0) ∧ ws' = (mRw ad ae cs (mKof (oLoc S a0.toNat (cond b2 (sse S a0.toNat) (sse S a0.toNat - sow S a0.toNat + sof S a1.toNat)) (sna S a0.toNat) (sof S a1.toNat)).2 T) J ((ao, .inr (4, [.long (iZ (oLoc S a0.toNat (cond b2 (sse S a0.toNat) (sse S a0.toNat - sow S a0.toNat + sof S a1.toNat)) (sna S a0.toNat) (sof S a1.toNat)).1).toInt64, s0])) :: rest))) ∨ (¬ ((0 ≤ a0 ∧ a0 < 4) ∧ (0 ≤ a1 ∧ a1 < 4)) ∧ v = some (.int 1) ∧ ws' = (mRw ad ae cs (mKof S T) J ((ao, .inr (4, [.long n0, s0])) :: rest))) ∨ (((0 ≤ a0 ∧ a0 < 4) ∧ (0 ≤ a1 ∧ a1 < 4)) ∧ ¬ (0 ≤ (0 : Int)) ∧ v = some (.int 2) ∧ ws' = (mRw ad ae cs (mKof S T) J ((ao, .inr (4, [.long n0, s0])) :: rest)))) := by
  refine mCw.of (by decide +kernel) (Nat.le_of_ble_eq_true rfl) (fun X hX hg hE => ?_)
  replace hX : mOK X RL cL_anew 6 ⟨9, 2, 12, 151⟩ [(0, 13, 16, 19)] (mTy cs) := hX
  refine r_aload hX dL_anew_0 rfl ?_
  refine r_aload_n hX dL_anew_2 rfl rfl ?_
  refine r_iload_n hX dL_anew_3 rfl rfl ?_
  refine r_iload_n hX dL_anew_4 rfl rfl ?_
  refine r_iload_n hX dL_anew_5 rfl rfl ?_
  refine r_callV hX (z_X2_anew ad cs S T (mMd ae cs J ((ao, .inr (4, [.long n0, s0])) :: rest)) hS _ h0 _ h1 _) kv_L_83 0 rfl rfl rfl rfl (Nat.le_of_ble_eq_true rfl) ⟨(Nat.le_of_ble_eq_true rfl), (Nat.le_of_ble_eq_true rfl)⟩ ⟨(Nat.le_of_ble_eq_true rfl), (Nat.le_of_ble_eq_true rfl)⟩ dL_anew_6 (fun E ws9 z => ?_) (fun v9 ws9 h9 => ?_)
  · obtain ⟨rfl, ⟨rfl, zi⟩ | ⟨rfl, zi, za⟩⟩ := z
    ·
      refine r_catch1 hX rfl (by decide) kl_L_19 kca_I (fun q => ?_)
      refine r_astore hX dL_anew_16 (by decide) rfl ?_
      refine r_iconst (v := 1) hX dL_anew_18 (by decide) ?_
      exact r_iret hX hE dL_anew_19 (Nat.le_of_ble_eq_true rfl) (Nat.le_of_ble_eq_true rfl) (Or.inr (Or.inl ⟨zi, rfl, rfl⟩))
    · exact absurd (by decide) za
  obtain ⟨hg9, rfl, hw9⟩ := h9
  subst ws9
  dsimp only [mPush]
  refine r_i2l hX dL_anew_9 ?_
  refine r_putN hX kg_L_13 21 rfl rfl rfl rfl (Nat.le_of_ble_eq_true rfl) dL_anew_10 ?_
  refine r_goto (tgt := 20) hX dL_anew_13 (by decide) ?_
  refine r_iconst (v := 0) hX dL_anew_20 (by decide) ?_
  exact r_iret hX hE dL_anew_21 (Nat.le_of_ble_eq_true rfl) (Nat.le_of_ble_eq_true rfl) (Or.inl ⟨hg9, rfl, rfl⟩)
set_option maxHeartbeats 1000000 in
theorem z_L_copy (ad ae : Nat → Nat) (cs : ClassId × ClassId × ClassId) (S : mS) (T : mT2) (J : mJ) (rest : va_W) (hS : sWF S) (ao : Nat) (n0 : Int64) (s0 : Value) (a0 : Int) (h0 : rJ a0) (a1 : Int) (h1 : rJ a1)  : mCw (mTy cs) yL_copy cL_copy 5 (some .int) [(0, 11, 14, 19)] ⟨8, 2, 12, 127⟩ [.ref (ad 0), .int (iZ a0), .int (iZ a1), .ref ao] (mRw ad ae cs (mKof S T) J ((ao, .inr (4, [.long n0, s0])) :: rest)) (fun v ws' => ((((0 ≤ a0 ∧ a0 < 4) ∧ (0 ≤ a1 ∧ a1 < 4)) ∧ (0 ≤ (0 : Int))) ∧ v = some (.int 0) ∧ ws' = (mRw ad ae cs (mKof (oLoc S a0.toNat (sse S a1.toNat) (sna S a1.toNat) (sow S a1.toNat)).2 T) J ((ao, .inr (4, [.long (iZ (oLoc S a0.toNat (sse S a1.toNat) (sna S a1.toNat) (sow S a1.toNat)).1).toInt64, s0])) :: rest))) ∨ (¬ ((0 ≤ a0 ∧ a0 < 4) ∧ (0 ≤ a1 ∧ a1 < 4)) ∧ v = some (.int 1) ∧ ws' = (mRw ad ae cs (mKof S T) J ((ao, .inr (4, [.long n0, s0])) :: rest))) ∨ (((0 ≤ a0 ∧ a0 < 4) ∧ (0 ≤ a1 ∧ a1 < 4)) ∧ ¬ (0 ≤ (0 : Int)) ∧ v = some (.int 2) ∧ ws' = (mRw ad ae cs (mKof S T) J ((ao, .inr (4, [.long n0, s0])) :: rest)))) := by
  refine mCw.of (by decide +kernel) (Nat.le_of_ble_eq_true rfl) (fun X hX hg hE => ?_)
  replace hX : mOK X RL cL_copy 5 ⟨8, 2, 12, 127⟩ [(0, 11, 14, 19)] (mTy cs) := hX
  refine r_aload_n hX dL_copy_0 rfl rfl ?_
  refine r_aload_n hX dL_copy_1 rfl rfl ?_
  refine r_iload_n hX dL_copy_2 rfl rfl ?_
  refine r_iload_n hX dL_copy_3 rfl rfl ?_
  refine r_callV hX (z_X2_copy ad cs S T (mMd ae cs J ((ao, .inr (4, [.long n0, s0])) :: rest)) hS _ h0 _ h1) kv_L_87 0 rfl rfl rfl rfl (Nat.le_of_ble_eq_true rfl) ⟨(Nat.le_of_ble_eq_true rfl), (Nat.le_of_ble_eq_true rfl)⟩ ⟨(Nat.le_of_ble_eq_true rfl), (Nat.le_of_ble_eq_true rfl)⟩ dL_copy_4 (fun E ws9 z => ?_) (fun v9 ws9 h9 => ?_)
  · obtain ⟨rfl, ⟨rfl, zi⟩ | ⟨rfl, zi, za⟩⟩ := z
    ·
      refine r_catch1 hX rfl (by decide) kl_L_19 kca_I (fun q => ?_)
      refine r_astore hX dL_copy_14 (by decide) rfl ?_
      refine r_iconst (v := 1) hX dL_copy_16 (by decide) ?_
      exact r_iret hX hE dL_copy_17 (Nat.le_of_ble_eq_true rfl) (Nat.le_of_ble_eq_true rfl) (Or.inr (Or.inl ⟨zi, rfl, rfl⟩))
    · exact absurd (by decide) za
  obtain ⟨hg9, rfl, hw9⟩ := h9
  subst ws9
  dsimp only [mPush]
  refine r_i2l hX dL_copy_7 ?_
  refine r_putN hX kg_L_13 21 rfl rfl rfl rfl (Nat.le_of_ble_eq_true rfl) dL_copy_8 ?_
  refine r_goto (tgt := 18) hX dL_copy_11 (by decide) ?_
  refine r_iconst (v := 0) hX dL_copy_18 (by decide) ?_
  exact r_iret hX hE dL_copy_19 (Nat.le_of_ble_eq_true rfl) (Nat.le_of_ble_eq_true rfl) (Or.inl ⟨hg9, rfl, rfl⟩)
set_option maxHeartbeats 1000000 in
theorem z_L_ofDate (ad ae : Nat → Nat) (cs : ClassId × ClassId × ClassId) (S : mS) (T : mT2) (J : mJ) (rest : va_W) (hS : sWF S) (ao : Nat) (n0 : Int64) (s0 : Value) (a0 : Int) (h0 : rJ a0) (a1 : Int) (h1 : rJ a1)  : mCw (mTy cs) yL_ofDate cL_ofDate 5 (some .int) [(0, 11, 14, 19), (0, 11, 18, 21)] ⟨8, 2, 12, 130⟩ [.ref (ad 0), .int (iZ a0), .int (iZ a1), .ref ao] (mRw ad ae cs (mKof S T) J ((ao, .inr (4, [.long n0, s0])) :: rest)) (fun v ws' => ((((0 ≤ a0 ∧ a0 < 4)) ∧ (0 ≤ a1 ∧ a1 ≤ 12)) ∧ v = some (.int 0) ∧ ws' = (mRw ad ae cs (mKof S T) J ((ao, .inr (4, [.long (iZ (zDP (sse S a0.toNat) (sna S a0.toNat) (sow S a0.toNat) a1)).toInt64, s0])) :: rest))) ∨ (¬ ((0 ≤ a0 ∧ a0 < 4)) ∧ v = some (.int 1) ∧ ws' = (mRw ad ae cs (mKof S T) J ((ao, .inr (4, [.long n0, s0])) :: rest))) ∨ (((0 ≤ a0 ∧ a0 < 4)) ∧ ¬ (0 ≤ a1 ∧ a1 ≤ 12) ∧ v = some (.int 2) ∧ ws' = (mRw ad ae cs (mKof S T) J ((ao, .inr (4, [.long n0, s0])) :: rest)))) := by
  refine mCw.of (by decide +kernel) (Nat.le_of_ble_eq_true rfl) (fun X hX hg hE => ?_)
  replace hX : mOK X RL cL_ofDate 5 ⟨8, 2, 12, 130⟩ [(0, 11, 14, 19), (0, 11, 18, 21)] (mTy cs) := hX
  refine r_aload_n hX dL_ofDate_0 rfl rfl ?_
  refine r_aload_n hX dL_ofDate_1 rfl rfl ?_
  refine r_iload_n hX dL_ofDate_2 rfl rfl ?_
  refine r_iload_n hX dL_ofDate_3 rfl rfl ?_
  refine r_callV hX (z_X2_ofDate ad cs S T (mMd ae cs J ((ao, .inr (4, [.long n0, s0])) :: rest)) hS _ h0 _ h1) kv_L_90 0 rfl rfl rfl rfl (Nat.le_of_ble_eq_true rfl) ⟨(Nat.le_of_ble_eq_true rfl), (Nat.le_of_ble_eq_true rfl)⟩ ⟨(Nat.le_of_ble_eq_true rfl), (Nat.le_of_ble_eq_true rfl)⟩ dL_ofDate_4 (fun E ws9 z => ?_) (fun v9 ws9 h9 => ?_)
  · obtain ⟨rfl, ⟨rfl, zi⟩ | ⟨rfl, zi, za⟩⟩ := z
    ·
      refine r_catch1 hX rfl (by decide) kl_L_19 kca_I (fun q => ?_)
      refine r_astore hX dL_ofDate_14 (by decide) rfl ?_
      refine r_iconst (v := 1) hX dL_ofDate_16 (by decide) ?_
      exact r_iret hX hE dL_ofDate_17 (Nat.le_of_ble_eq_true rfl) (Nat.le_of_ble_eq_true rfl) (Or.inr (Or.inl ⟨zi, rfl, rfl⟩))
    ·
      refine r_catch2 hX hg (by decide) kl_L_19 rfl (by decide) kl_L_21 (fun q => ?_)
      refine r_astore hX dL_ofDate_18 (by decide) rfl ?_
      refine r_iconst (v := 2) hX dL_ofDate_20 (by decide) ?_
      exact r_iret hX hE dL_ofDate_21 (Nat.le_of_ble_eq_true rfl) (Nat.le_of_ble_eq_true rfl) (Or.inr (Or.inr ⟨zi, za, rfl, rfl⟩))
  obtain ⟨hg9, rfl, hw9⟩ := h9
  subst ws9
  dsimp only [mPush]
  refine r_i2l hX dL_ofDate_7 ?_
  refine r_putN hX kg_L_13 21 rfl rfl rfl rfl (Nat.le_of_ble_eq_true rfl) dL_ofDate_8 ?_
  refine r_goto (tgt := 22) hX dL_ofDate_11 (by decide) ?_
  refine r_iconst (v := 0) hX dL_ofDate_22 (by decide) ?_
  exact r_iret hX hE dL_ofDate_23 (Nat.le_of_ble_eq_true rfl) (Nat.le_of_ble_eq_true rfl) (Or.inl ⟨hg9, rfl, rfl⟩)
set_option maxHeartbeats 1000000 in
theorem z_L_orderDate (ad ae : Nat → Nat) (cs : ClassId × ClassId × ClassId) (S : mS) (T : mT2) (J : mJ) (rest : va_W) (hS : sWF S) (ao : Nat) (n0 : Int64) (s0 : Value) (a0 : Int) (h0 : rJ a0) (a1 : Int) (h1 : rJ a1)  : mCw (mTy cs) yL_orderDate cL_orderDate 5 (some .int) [(0, 11, 14, 19)] ⟨8, 2, 12, 125⟩ [.ref (ad 0), .int (iZ a0), .int (iZ a1), .ref ao] (mRw ad ae cs (mKof S T) J ((ao, .inr (4, [.long n0, s0])) :: rest)) (fun v ws' => ((((0 ≤ a0 ∧ a0 < 4) ∧ (0 ≤ a1 ∧ a1 < 4)) ∧ (0 ≤ (0 : Int))) ∧ v = some (.int 0) ∧ ws' = (mRw ad ae cs (mKof S T) J ((ao, .inr (4, [.long (iZ (zTo (sse S a0.toNat) (sna S a0.toNat) (sow S a0.toNat) (sse S a1.toNat) (sna S a1.toNat) (sow S a1.toNat))).toInt64, s0])) :: rest))) ∨ (¬ ((0 ≤ a0 ∧ a0 < 4) ∧ (0 ≤ a1 ∧ a1 < 4)) ∧ v = some (.int 1) ∧ ws' = (mRw ad ae cs (mKof S T) J ((ao, .inr (4, [.long n0, s0])) :: rest))) ∨ (((0 ≤ a0 ∧ a0 < 4) ∧ (0 ≤ a1 ∧ a1 < 4)) ∧ ¬ (0 ≤ (0 : Int)) ∧ v = some (.int 2) ∧ ws' = (mRw ad ae cs (mKof S T) J ((ao, .inr (4, [.long n0, s0])) :: rest)))) := by
  refine mCw.of (by decide +kernel) (Nat.le_of_ble_eq_true rfl) (fun X hX hg hE => ?_)
  replace hX : mOK X RL cL_orderDate 5 ⟨8, 2, 12, 125⟩ [(0, 11, 14, 19)] (mTy cs) := hX
  refine r_aload_n hX dL_orderDate_0 rfl rfl ?_
  refine r_aload_n hX dL_orderDate_1 rfl rfl ?_
  refine r_iload_n hX dL_orderDate_2 rfl rfl ?_
  refine r_iload_n hX dL_orderDate_3 rfl rfl ?_
  refine r_callV hX (z_X2_orderDate ad cs S T (mMd ae cs J ((ao, .inr (4, [.long n0, s0])) :: rest)) hS _ h0 _ h1) kv_L_93 0 rfl rfl rfl rfl (Nat.le_of_ble_eq_true rfl) ⟨(Nat.le_of_ble_eq_true rfl), (Nat.le_of_ble_eq_true rfl)⟩ ⟨(Nat.le_of_ble_eq_true rfl), (Nat.le_of_ble_eq_true rfl)⟩ dL_orderDate_4 (fun E ws9 z => ?_) (fun v9 ws9 h9 => ?_)
  · obtain ⟨rfl, ⟨rfl, zi⟩ | ⟨rfl, zi, za⟩⟩ := z
    ·
      refine r_catch1 hX rfl (by decide) kl_L_19 kca_I (fun q => ?_)
      refine r_astore hX dL_orderDate_14 (by decide) rfl ?_
      refine r_iconst (v := 1) hX dL_orderDate_16 (by decide) ?_
      exact r_iret hX hE dL_orderDate_17 (Nat.le_of_ble_eq_true rfl) (Nat.le_of_ble_eq_true rfl) (Or.inr (Or.inl ⟨zi, rfl, rfl⟩))
    · exact absurd (by decide) za
  obtain ⟨hg9, rfl, hw9⟩ := h9
  subst ws9
  dsimp only [mPush]
  refine r_i2l hX dL_orderDate_7 ?_
  refine r_putN hX kg_L_13 21 rfl rfl rfl rfl (Nat.le_of_ble_eq_true rfl) dL_orderDate_8 ?_
  refine r_goto (tgt := 18) hX dL_orderDate_11 (by decide) ?_
  refine r_iconst (v := 0) hX dL_orderDate_18 (by decide) ?_
  exact r_iret hX hE dL_orderDate_19 (Nat.le_of_ble_eq_true rfl) (Nat.le_of_ble_eq_true rfl) (Or.inl ⟨hg9, rfl, rfl⟩)
set_option maxHeartbeats 1000000 in
theorem z_L_isDate (ad ae : Nat → Nat) (cs : ClassId × ClassId × ClassId) (S : mS) (T : mT2) (J : mJ) (rest : va_W) (hS : sWF S) (ao : Nat) (n0 : Int64) (s0 : Value) (a0 : Int) (h0 : rJ a0) (a1 : Int) (h1 : rJ a1) (a2 : Int) (h2 : rJ a2)  : mCw (mTy cs) yL_isDate cL_isDate 6 (some .int) [(0, 20, 23, 19), (0, 20, 27, 21)] ⟨8, 3, 18, 129⟩ [.ref (ad 0), .int (iZ a0), .int (iZ a1), .int (iZ a2), .ref ao] (mRw ad ae cs (mKof S T) J ((ao, .inr (4, [.long n0, s0])) :: rest)) (fun v ws' => ((((0 ≤ a0 ∧ a0 < 4) ∧ (0 ≤ a1 ∧ a1 < 4)) ∧ (0 ≤ a2 ∧ a2 ≤ 3)) ∧ v = some (.int 0) ∧ ws' = (mRw ad ae cs (mKof S T) J ((ao, .inr (4, [.long (cond (zSo (sse S a0.toNat) (sna S a0.toNat) (sow S a0.toNat) (sse S a1.toNat) (sna S a1.toNat) (sow S a1.toNat) a2) 1 0), s0])) :: rest))) ∨ (¬ ((0 ≤ a0 ∧ a0 < 4) ∧ (0 ≤ a1 ∧ a1 < 4)) ∧ v = some (.int 1) ∧ ws' = (mRw ad ae cs (mKof S T) J ((ao, .inr (4, [.long n0, s0])) :: rest))) ∨ (((0 ≤ a0 ∧ a0 < 4) ∧ (0 ≤ a1 ∧ a1 < 4)) ∧ ¬ (0 ≤ a2 ∧ a2 ≤ 3) ∧ v = some (.int 2) ∧ ws' = (mRw ad ae cs (mKof S T) J ((ao, .inr (4, [.long n0, s0])) :: rest)))) := by
  refine mCw.of (by decide +kernel) (Nat.le_of_ble_eq_true rfl) (fun X hX hg hE => ?_)
  replace hX : mOK X RL cL_isDate 6 ⟨8, 3, 18, 129⟩ [(0, 20, 23, 19), (0, 20, 27, 21)] (mTy cs) := hX
  refine r_aload hX dL_isDate_0 rfl ?_
  refine r_aload_n hX dL_isDate_2 rfl rfl ?_
  refine r_iload_n hX dL_isDate_3 rfl rfl ?_
  refine r_iload_n hX dL_isDate_4 rfl rfl ?_
  refine r_iload_n hX dL_isDate_5 rfl rfl ?_
  refine r_callV hX (z_X2_isDate ad cs S T (mMd ae cs J ((ao, .inr (4, [.long n0, s0])) :: rest)) hS _ h0 _ h1 _ h2) kv_L_96 0 rfl rfl rfl rfl (Nat.le_of_ble_eq_true rfl) ⟨(Nat.le_of_ble_eq_true rfl), (Nat.le_of_ble_eq_true rfl)⟩ ⟨(Nat.le_of_ble_eq_true rfl), (Nat.le_of_ble_eq_true rfl)⟩ dL_isDate_6 (fun E ws9 z => ?_) (fun v9 ws9 h9 => ?_)
  · obtain ⟨rfl, ⟨rfl, zi⟩ | ⟨rfl, zi, za⟩⟩ := z
    ·
      refine r_catch1 hX rfl (by decide) kl_L_19 kca_I (fun q => ?_)
      refine r_astore hX dL_isDate_23 (by decide) rfl ?_
      refine r_iconst (v := 1) hX dL_isDate_25 (by decide) ?_
      exact r_iret hX hE dL_isDate_26 (Nat.le_of_ble_eq_true rfl) (Nat.le_of_ble_eq_true rfl) (Or.inr (Or.inl ⟨zi, rfl, rfl⟩))
    ·
      refine r_catch2 hX hg (by decide) kl_L_19 rfl (by decide) kl_L_21 (fun q => ?_)
      refine r_astore hX dL_isDate_27 (by decide) rfl ?_
      refine r_iconst (v := 2) hX dL_isDate_29 (by decide) ?_
      exact r_iret hX hE dL_isDate_30 (Nat.le_of_ble_eq_true rfl) (Nat.le_of_ble_eq_true rfl) (Or.inr (Or.inr ⟨zi, za, rfl, rfl⟩))
  obtain ⟨hg9, rfl, hw9⟩ := h9
  subst ws9
  dsimp only [mPush]
  refine r_if_eqB (tgt := 16) hX dL_isDate_9 (by decide) (fun c => ?_) (fun c => ?_)
  · refine r_lconst (v := 0) hX dL_isDate_16 (by decide) ?_
    refine r_putN hX kg_L_13 21 rfl rfl rfl rfl (Nat.le_of_ble_eq_true rfl) dL_isDate_17 ?_
    refine r_goto (tgt := 31) hX dL_isDate_20 (by decide) ?_
    refine r_iconst (v := 0) hX dL_isDate_31 (by decide) ?_
    exact r_iret hX hE dL_isDate_32 (Nat.le_of_ble_eq_true rfl) (Nat.le_of_ble_eq_true rfl) (Or.inl ⟨hg9, rfl, by rw [c]; rfl⟩)
  · refine r_lconst (v := 1) hX dL_isDate_12 (by decide) ?_
    refine r_goto (tgt := 17) hX dL_isDate_13 (by decide) ?_
    refine r_putN hX kg_L_13 21 rfl rfl rfl rfl (Nat.le_of_ble_eq_true rfl) dL_isDate_17 ?_
    refine r_goto (tgt := 31) hX dL_isDate_20 (by decide) ?_
    refine r_iconst (v := 0) hX dL_isDate_31 (by decide) ?_
    exact r_iret hX hE dL_isDate_32 (Nat.le_of_ble_eq_true rfl) (Nat.le_of_ble_eq_true rfl) (Or.inl ⟨hg9, rfl, by rw [c]; rfl⟩)
set_option maxHeartbeats 1000000 in
theorem z_L_clock (ad ae : Nat → Nat) (cs : ClassId × ClassId × ClassId) (S : mS) (T : mT2) (J : mJ) (rest : va_W) (hS : sWF S) (ao : Nat) (n0 : Int64) (s0 : Value) (a0 : Int) (h0 : rJ a0) (a1 : Int) (h1 : rJ a1) (a2 : Int) (h2 : rJ a2) (a3 : Int) (h3 : rJ a3)  : mCw (mTy cs) yL_clock cL_clock 7 (some .int) [(0, 15, 18, 19), (0, 15, 22, 21)] ⟨9, 4, 24, 150⟩ [.ref (ad 0), .int (iZ a0), .int (iZ a1), .int (iZ a2), .int (iZ a3), .ref ao] (mRw ad ae cs (mKof S T) J ((ao, .inr (4, [.long n0, s0])) :: rest)) (fun v ws' => ((((0 ≤ a0 ∧ a0 < 3) ∧ (0 ≤ a3 ∧ a3 < 4)) ∧ ((0 ≤ a1 ∧ a1 ≤ 86399) ∧ (0 ≤ a2 ∧ a2 ≤ 999999999))) ∧ v = some (.int 0) ∧ ws' = (mRw ad ae cs (mKof (oClk S a0.toNat a1 a2 (sof S a3.toNat)).2 T) J ((ao, .inr (4, [.long (iZ (oClk S a0.toNat a1 a2 (sof S a3.toNat)).1).toInt64, s0])) :: rest))) ∨ (¬ ((0 ≤ a0 ∧ a0 < 3) ∧ (0 ≤ a3 ∧ a3 < 4)) ∧ v = some (.int 1) ∧ ws' = (mRw ad ae cs (mKof S T) J ((ao, .inr (4, [.long n0, s0])) :: rest))) ∨ (((0 ≤ a0 ∧ a0 < 3) ∧ (0 ≤ a3 ∧ a3 < 4)) ∧ ¬ ((0 ≤ a1 ∧ a1 ≤ 86399) ∧ (0 ≤ a2 ∧ a2 ≤ 999999999)) ∧ v = some (.int 2) ∧ ws' = (mRw ad ae cs (mKof S T) J ((ao, .inr (4, [.long n0, s0])) :: rest)))) := by
  refine mCw.of (by decide +kernel) (Nat.le_of_ble_eq_true rfl) (fun X hX hg hE => ?_)
  replace hX : mOK X RL cL_clock 7 ⟨9, 4, 24, 150⟩ [(0, 15, 18, 19), (0, 15, 22, 21)] (mTy cs) := hX
  refine r_aload hX dL_clock_0 rfl ?_
  refine r_aload_n hX dL_clock_2 rfl rfl ?_
  refine r_iload_n hX dL_clock_3 rfl rfl ?_
  refine r_iload_n hX dL_clock_4 rfl rfl ?_
  refine r_iload_n hX dL_clock_5 rfl rfl ?_
  refine r_iload hX dL_clock_6 rfl ?_
  refine r_callV hX (z_X2_clock ad cs S T (mMd ae cs J ((ao, .inr (4, [.long n0, s0])) :: rest)) hS _ h0 _ h1 _ h2 _ h3) kv_L_99 0 rfl rfl rfl rfl (Nat.le_of_ble_eq_true rfl) ⟨(Nat.le_of_ble_eq_true rfl), (Nat.le_of_ble_eq_true rfl)⟩ ⟨(Nat.le_of_ble_eq_true rfl), (Nat.le_of_ble_eq_true rfl)⟩ dL_clock_8 (fun E ws9 z => ?_) (fun v9 ws9 h9 => ?_)
  · obtain ⟨rfl, ⟨rfl, zi⟩ | ⟨rfl, zi, za⟩⟩ := z
    ·
      refine r_catch1 hX rfl (by decide) kl_L_19 kca_I (fun q => ?_)
      refine r_astore hX dL_clock_18 (by decide) rfl ?_
      refine r_iconst (v := 1) hX dL_clock_20 (by decide) ?_
      exact r_iret hX hE dL_clock_21 (Nat.le_of_ble_eq_true rfl) (Nat.le_of_ble_eq_true rfl) (Or.inr (Or.inl ⟨zi, rfl, rfl⟩))
    ·
      refine r_catch2 hX hg (by decide) kl_L_19 rfl (by decide) kl_L_21 (fun q => ?_)
      refine r_astore hX dL_clock_22 (by decide) rfl ?_
      refine r_iconst (v := 2) hX dL_clock_24 (by decide) ?_
      exact r_iret hX hE dL_clock_25 (Nat.le_of_ble_eq_true rfl) (Nat.le_of_ble_eq_true rfl) (Or.inr (Or.inr ⟨zi, za, rfl, rfl⟩))
  obtain ⟨hg9, rfl, hw9⟩ := h9
  subst ws9
  dsimp only [mPush]
  refine r_i2l hX dL_clock_11 ?_
  refine r_putN hX kg_L_13 21 rfl rfl rfl rfl (Nat.le_of_ble_eq_true rfl) dL_clock_12 ?_
  refine r_goto (tgt := 26) hX dL_clock_15 (by decide) ?_
  refine r_iconst (v := 0) hX dL_clock_26 (by decide) ?_
  exact r_iret hX hE dL_clock_27 (Nat.le_of_ble_eq_true rfl) (Nat.le_of_ble_eq_true rfl) (Or.inl ⟨hg9, rfl, rfl⟩)
set_option maxHeartbeats 1000000 in
theorem z_L_clockOf (ad ae : Nat → Nat) (cs : ClassId × ClassId × ClassId) (S : mS) (T : mT2) (J : mJ) (rest : va_W) (hS : sWF S) (ao : Nat) (n0 : Int64) (s0 : Value) (a0 : Int) (h0 : rJ a0) (a1 : Int) (h1 : rJ a1)  : mCw (mTy cs) yL_clockOf cL_clockOf 5 (some .int) [(0, 11, 14, 19)] ⟨8, 2, 12, 127⟩ [.ref (ad 0), .int (iZ a0), .int (iZ a1), .ref ao] (mRw ad ae cs (mKof S T) J ((ao, .inr (4, [.long n0, s0])) :: rest)) (fun v ws' => ((((0 ≤ a0 ∧ a0 < 3) ∧ (0 ≤ a1 ∧ a1 < 4)) ∧ (0 ≤ (0 : Int))) ∧ v = some (.int 0) ∧ ws' = (mRw ad ae cs (mKof (oClk S a0.toNat (sse S a1.toNat) (sna S a1.toNat) (sow S a1.toNat)).2 T) J ((ao, .inr (4, [.long (iZ (oClk S a0.toNat (sse S a1.toNat) (sna S a1.toNat) (sow S a1.toNat)).1).toInt64, s0])) :: rest))) ∨ (¬ ((0 ≤ a0 ∧ a0 < 3) ∧ (0 ≤ a1 ∧ a1 < 4)) ∧ v = some (.int 1) ∧ ws' = (mRw ad ae cs (mKof S T) J ((ao, .inr (4, [.long n0, s0])) :: rest))) ∨ (((0 ≤ a0 ∧ a0 < 3) ∧ (0 ≤ a1 ∧ a1 < 4)) ∧ ¬ (0 ≤ (0 : Int)) ∧ v = some (.int 2) ∧ ws' = (mRw ad ae cs (mKof S T) J ((ao, .inr (4, [.long n0, s0])) :: rest)))) := by
  refine mCw.of (by decide +kernel) (Nat.le_of_ble_eq_true rfl) (fun X hX hg hE => ?_)
  replace hX : mOK X RL cL_clockOf 5 ⟨8, 2, 12, 127⟩ [(0, 11, 14, 19)] (mTy cs) := hX
  refine r_aload_n hX dL_clockOf_0 rfl rfl ?_
  refine r_aload_n hX dL_clockOf_1 rfl rfl ?_
  refine r_iload_n hX dL_clockOf_2 rfl rfl ?_
  refine r_iload_n hX dL_clockOf_3 rfl rfl ?_
  refine r_callV hX (z_X2_clockOf ad cs S T (mMd ae cs J ((ao, .inr (4, [.long n0, s0])) :: rest)) hS _ h0 _ h1) kv_L_102 0 rfl rfl rfl rfl (Nat.le_of_ble_eq_true rfl) ⟨(Nat.le_of_ble_eq_true rfl), (Nat.le_of_ble_eq_true rfl)⟩ ⟨(Nat.le_of_ble_eq_true rfl), (Nat.le_of_ble_eq_true rfl)⟩ dL_clockOf_4 (fun E ws9 z => ?_) (fun v9 ws9 h9 => ?_)
  · obtain ⟨rfl, ⟨rfl, zi⟩ | ⟨rfl, zi, za⟩⟩ := z
    ·
      refine r_catch1 hX rfl (by decide) kl_L_19 kca_I (fun q => ?_)
      refine r_astore hX dL_clockOf_14 (by decide) rfl ?_
      refine r_iconst (v := 1) hX dL_clockOf_16 (by decide) ?_
      exact r_iret hX hE dL_clockOf_17 (Nat.le_of_ble_eq_true rfl) (Nat.le_of_ble_eq_true rfl) (Or.inr (Or.inl ⟨zi, rfl, rfl⟩))
    · exact absurd (by decide) za
  obtain ⟨hg9, rfl, hw9⟩ := h9
  subst ws9
  dsimp only [mPush]
  refine r_i2l hX dL_clockOf_7 ?_
  refine r_putN hX kg_L_13 21 rfl rfl rfl rfl (Nat.le_of_ble_eq_true rfl) dL_clockOf_8 ?_
  refine r_goto (tgt := 18) hX dL_clockOf_11 (by decide) ?_
  refine r_iconst (v := 0) hX dL_clockOf_18 (by decide) ?_
  exact r_iret hX hE dL_clockOf_19 (Nat.le_of_ble_eq_true rfl) (Nat.le_of_ble_eq_true rfl) (Or.inl ⟨hg9, rfl, rfl⟩)
set_option maxHeartbeats 1000000 in
theorem z_L_strike (ad ae : Nat → Nat) (cs : ClassId × ClassId × ClassId) (S : mS) (T : mT2) (J : mJ) (rest : va_W) (hS : sWF S) (ao : Nat) (n0 : Int64) (s0 : Value) (a0 : Int) (h0 : rJ a0) (a1 : Int) (h1 : rJ a1)  : mCw (mTy cs) yL_strike cL_strike 5 (some .int) [(0, 11, 14, 19)] ⟨8, 2, 12, 127⟩ [.ref (ad 0), .int (iZ a0), .int (iZ a1), .ref ao] (mRw ad ae cs (mKof S T) J ((ao, .inr (4, [.long n0, s0])) :: rest)) (fun v ws' => ((((0 ≤ a0 ∧ a0 < 4) ∧ (0 ≤ a1 ∧ a1 < 3)) ∧ (0 ≤ (0 : Int))) ∧ v = some (.int 0) ∧ ws' = (mRw ad ae cs (mKof (oLoc S a0.toNat (sse S a0.toNat / 86400 * 86400 + sse S (a1.toNat + 4)) (sna S (a1.toNat + 4)) (sow S (a1.toNat + 4))).2 T) J ((ao, .inr (4, [.long (iZ (oLoc S a0.toNat (sse S a0.toNat / 86400 * 86400 + sse S (a1.toNat + 4)) (sna S (a1.toNat + 4)) (sow S (a1.toNat + 4))).1).toInt64, s0])) :: rest))) ∨ (¬ ((0 ≤ a0 ∧ a0 < 4) ∧ (0 ≤ a1 ∧ a1 < 3)) ∧ v = some (.int 1) ∧ ws' = (mRw ad ae cs (mKof S T) J ((ao, .inr (4, [.long n0, s0])) :: rest))) ∨ (((0 ≤ a0 ∧ a0 < 4) ∧ (0 ≤ a1 ∧ a1 < 3)) ∧ ¬ (0 ≤ (0 : Int)) ∧ v = some (.int 2) ∧ ws' = (mRw ad ae cs (mKof S T) J ((ao, .inr (4, [.long n0, s0])) :: rest)))) := by
  refine mCw.of (by decide +kernel) (Nat.le_of_ble_eq_true rfl) (fun X hX hg hE => ?_)
  replace hX : mOK X RL cL_strike 5 ⟨8, 2, 12, 127⟩ [(0, 11, 14, 19)] (mTy cs) := hX
  refine r_aload_n hX dL_strike_0 rfl rfl ?_
  refine r_aload_n hX dL_strike_1 rfl rfl ?_
  refine r_iload_n hX dL_strike_2 rfl rfl ?_
  refine r_iload_n hX dL_strike_3 rfl rfl ?_
  refine r_callV hX (z_X2_strike ad cs S T (mMd ae cs J ((ao, .inr (4, [.long n0, s0])) :: rest)) hS _ h0 _ h1) kv_L_105 0 rfl rfl rfl rfl (Nat.le_of_ble_eq_true rfl) ⟨(Nat.le_of_ble_eq_true rfl), (Nat.le_of_ble_eq_true rfl)⟩ ⟨(Nat.le_of_ble_eq_true rfl), (Nat.le_of_ble_eq_true rfl)⟩ dL_strike_4 (fun E ws9 z => ?_) (fun v9 ws9 h9 => ?_)
  · obtain ⟨rfl, ⟨rfl, zi⟩ | ⟨rfl, zi, za⟩⟩ := z
    ·
      refine r_catch1 hX rfl (by decide) kl_L_19 kca_I (fun q => ?_)
      refine r_astore hX dL_strike_14 (by decide) rfl ?_
      refine r_iconst (v := 1) hX dL_strike_16 (by decide) ?_
      exact r_iret hX hE dL_strike_17 (Nat.le_of_ble_eq_true rfl) (Nat.le_of_ble_eq_true rfl) (Or.inr (Or.inl ⟨zi, rfl, rfl⟩))
    · exact absurd (by decide) za
  obtain ⟨hg9, rfl, hw9⟩ := h9
  subst ws9
  dsimp only [mPush]
  refine r_i2l hX dL_strike_7 ?_
  refine r_putN hX kg_L_13 21 rfl rfl rfl rfl (Nat.le_of_ble_eq_true rfl) dL_strike_8 ?_
  refine r_goto (tgt := 18) hX dL_strike_11 (by decide) ?_
  refine r_iconst (v := 0) hX dL_strike_18 (by decide) ?_
  exact r_iret hX hE dL_strike_19 (Nat.le_of_ble_eq_true rfl) (Nat.le_of_ble_eq_true rfl) (Or.inl ⟨hg9, rfl, rfl⟩)
set_option maxHeartbeats 1000000 in
theorem z_L_moveClock (ad ae : Nat → Nat) (cs : ClassId × ClassId × ClassId) (S : mS) (T : mT2) (J : mJ) (rest : va_W) (hS : sWF S) (ao : Nat) (n0 : Int64) (s0 : Value) (a0 : Int) (h0 : rJ a0) (a1 : Int) (h1 : rJ a1) (a2 : Int) (h2 : rJ a2) (b3 : Bool)  : mCw (mTy cs) yL_moveClock cL_moveClock 7 (some .int) [(0, 15, 18, 19), (0, 15, 22, 21)] ⟨8, 2, 12, 131⟩ [.ref (ad 0), .int (iZ a0), .int (iZ a1), .int (iZ a2), .int (b2i b3), .ref ao] (mRw ad ae cs (mKof S T) J ((ao, .inr (4, [.long n0, s0])) :: rest)) (fun v ws' => ((((0 ≤ a0 ∧ a0 < 3)) ∧ (4 ≤ a1 ∧ a1 ≤ 7)) ∧ v = some (.int 0) ∧ ws' = (mRw ad ae cs (mKof (oClk S a0.toNat (sse S (a0.toNat + 4) + zSn (sna S (a0.toNat + 4)) a1 (zSg a2 b3)) (zNn (sna S (a0.toNat + 4)) a1 (zSg a2 b3)) (sow S (a0.toNat + 4))).2 T) J ((ao, .inr (4, [.long (iZ (oClk S a0.toNat (sse S (a0.toNat + 4) + zSn (sna S (a0.toNat + 4)) a1 (zSg a2 b3)) (zNn (sna S (a0.toNat + 4)) a1 (zSg a2 b3)) (sow S (a0.toNat + 4))).1).toInt64, s0])) :: rest))) ∨ (¬ ((0 ≤ a0 ∧ a0 < 3)) ∧ v = some (.int 1) ∧ ws' = (mRw ad ae cs (mKof S T) J ((ao, .inr (4, [.long n0, s0])) :: rest))) ∨ (((0 ≤ a0 ∧ a0 < 3)) ∧ ¬ (4 ≤ a1 ∧ a1 ≤ 7) ∧ v = some (.int 2) ∧ ws' = (mRw ad ae cs (mKof S T) J ((ao, .inr (4, [.long n0, s0])) :: rest)))) := by
  refine mCw.of (by decide +kernel) (Nat.le_of_ble_eq_true rfl) (fun X hX hg hE => ?_)
  replace hX : mOK X RL cL_moveClock 7 ⟨8, 2, 12, 131⟩ [(0, 15, 18, 19), (0, 15, 22, 21)] (mTy cs) := hX
  refine r_aload hX dL_moveClock_0 rfl ?_
  refine r_aload_n hX dL_moveClock_2 rfl rfl ?_
  refine r_iload_n hX dL_moveClock_3 rfl rfl ?_
  refine r_iload_n hX dL_moveClock_4 rfl rfl ?_
  refine r_iload_n hX dL_moveClock_5 rfl rfl ?_
  refine r_iload hX dL_moveClock_6 rfl ?_
  refine r_callV hX (z_X2_moveClock ad cs S T (mMd ae cs J ((ao, .inr (4, [.long n0, s0])) :: rest)) hS _ h0 _ h1 _ h2 _) kv_L_108 0 rfl rfl rfl rfl (Nat.le_of_ble_eq_true rfl) ⟨(Nat.le_of_ble_eq_true rfl), (Nat.le_of_ble_eq_true rfl)⟩ ⟨(Nat.le_of_ble_eq_true rfl), (Nat.le_of_ble_eq_true rfl)⟩ dL_moveClock_8 (fun E ws9 z => ?_) (fun v9 ws9 h9 => ?_)
  · obtain ⟨rfl, ⟨rfl, zi⟩ | ⟨rfl, zi, za⟩⟩ := z
    ·
      refine r_catch1 hX rfl (by decide) kl_L_19 kca_I (fun q => ?_)
      refine r_astore hX dL_moveClock_18 (by decide) rfl ?_
      refine r_iconst (v := 1) hX dL_moveClock_20 (by decide) ?_
      exact r_iret hX hE dL_moveClock_21 (Nat.le_of_ble_eq_true rfl) (Nat.le_of_ble_eq_true rfl) (Or.inr (Or.inl ⟨zi, rfl, rfl⟩))
    ·
      refine r_catch2 hX hg (by decide) kl_L_19 rfl (by decide) kl_L_21 (fun q => ?_)
      refine r_astore hX dL_moveClock_22 (by decide) rfl ?_
      refine r_iconst (v := 2) hX dL_moveClock_24 (by decide) ?_
      exact r_iret hX hE dL_moveClock_25 (Nat.le_of_ble_eq_true rfl) (Nat.le_of_ble_eq_true rfl) (Or.inr (Or.inr ⟨zi, za, rfl, rfl⟩))
  obtain ⟨hg9, rfl, hw9⟩ := h9
  subst ws9
  dsimp only [mPush]
  refine r_i2l hX dL_moveClock_11 ?_
  refine r_putN hX kg_L_13 21 rfl rfl rfl rfl (Nat.le_of_ble_eq_true rfl) dL_moveClock_12 ?_
  refine r_goto (tgt := 26) hX dL_moveClock_15 (by decide) ?_
  refine r_iconst (v := 0) hX dL_moveClock_26 (by decide) ?_
  exact r_iret hX hE dL_moveClock_27 (Nat.le_of_ble_eq_true rfl) (Nat.le_of_ble_eq_true rfl) (Or.inl ⟨hg9, rfl, rfl⟩)
set_option maxHeartbeats 1000000 in
theorem z_L_anewClock (ad ae : Nat → Nat) (cs : ClassId × ClassId × ClassId) (S : mS) (T : mT2) (J : mJ) (rest : va_W) (hS : sWF S) (ao : Nat) (n0 : Int64) (s0 : Value) (a0 : Int) (h0 : rJ a0) (a1 : Int) (h1 : rJ a1) (b2 : Bool)  : mCw (mTy cs) yL_anewClock cL_anewClock 6 (some .int) [(0, 13, 16, 19)] ⟨9, 2, 12, 151⟩ [.ref (ad 0), .int (iZ a0), .int (iZ a1), .int (b2i b2), .ref ao] (mRw ad ae cs (mKof S T) J ((ao, .inr (4, [.long n0, s0])) :: rest)) (fun v ws' => ((((0 ≤ a0 ∧ a0 < 3) ∧ (0 ≤ a1 ∧ a1 < 4)) ∧ (0 ≤ (0 : Int))) ∧ v = some (.int 0) ∧ ws' = (mRw ad ae cs (mKof (oClk S a0.toNat (cond b2 (sse S (a0.toNat + 4)) (sse S (a0.toNat + 4) - sow S (a0.toNat + 4) + sof S a1.toNat)) (sna S (a0.toNat + 4)) (sof S a1.toNat)).2 T) J ((ao, .inr (4, [.long (iZ (oClk S a0.toNat (cond b2 (sse S (a0.toNat + 4)) (sse S (a0.toNat + 4) - sow S (a0.toNat + 4) + sof S a1.toNat)) (sna S (a0.toNat + 4)) (sof S a1.toNat)).1).toInt64, s0])) :: rest))) ∨ (¬ ((0 ≤ a0 ∧ a0 < 3) ∧ (0 ≤ a1 ∧ a1 < 4)) ∧ v = some (.int 1) ∧ ws' = (mRw ad ae cs (mKof S T) J ((ao, .inr (4, [.long n0, s0])) :: rest))) ∨ (((0 ≤ a0 ∧ a0 < 3) ∧ (0 ≤ a1 ∧ a1 < 4)) ∧ ¬ (0 ≤ (0 : Int)) ∧ v = some (.int 2) ∧ ws' = (mRw ad ae cs (mKof S T) J ((ao, .inr (4, [.long n0, s0])) :: rest)))) := by
  refine mCw.of (by decide +kernel) (Nat.le_of_ble_eq_true rfl) (fun X hX hg hE => ?_)
  replace hX : mOK X RL cL_anewClock 6 ⟨9, 2, 12, 151⟩ [(0, 13, 16, 19)] (mTy cs) := hX
  refine r_aload hX dL_anewClock_0 rfl ?_
  refine r_aload_n hX dL_anewClock_2 rfl rfl ?_
  refine r_iload_n hX dL_anewClock_3 rfl rfl ?_
  refine r_iload_n hX dL_anewClock_4 rfl rfl ?_
  refine r_iload_n hX dL_anewClock_5 rfl rfl ?_
  refine r_callV hX (z_X2_anewClock ad cs S T (mMd ae cs J ((ao, .inr (4, [.long n0, s0])) :: rest)) hS _ h0 _ h1 _) kv_L_111 0 rfl rfl rfl rfl (Nat.le_of_ble_eq_true rfl) ⟨(Nat.le_of_ble_eq_true rfl), (Nat.le_of_ble_eq_true rfl)⟩ ⟨(Nat.le_of_ble_eq_true rfl), (Nat.le_of_ble_eq_true rfl)⟩ dL_anewClock_6 (fun E ws9 z => ?_) (fun v9 ws9 h9 => ?_)
  · obtain ⟨rfl, ⟨rfl, zi⟩ | ⟨rfl, zi, za⟩⟩ := z
    ·
      refine r_catch1 hX rfl (by decide) kl_L_19 kca_I (fun q => ?_)
      refine r_astore hX dL_anewClock_16 (by decide) rfl ?_
      refine r_iconst (v := 1) hX dL_anewClock_18 (by decide) ?_
      exact r_iret hX hE dL_anewClock_19 (Nat.le_of_ble_eq_true rfl) (Nat.le_of_ble_eq_true rfl) (Or.inr (Or.inl ⟨zi, rfl, rfl⟩))
    · exact absurd (by decide) za
  obtain ⟨hg9, rfl, hw9⟩ := h9
  subst ws9
  dsimp only [mPush]
  refine r_i2l hX dL_anewClock_9 ?_
  refine r_putN hX kg_L_13 21 rfl rfl rfl rfl (Nat.le_of_ble_eq_true rfl) dL_anewClock_10 ?_
  refine r_goto (tgt := 20) hX dL_anewClock_13 (by decide) ?_
  refine r_iconst (v := 0) hX dL_anewClock_20 (by decide) ?_
  exact r_iret hX hE dL_anewClock_21 (Nat.le_of_ble_eq_true rfl) (Nat.le_of_ble_eq_true rfl) (Or.inl ⟨hg9, rfl, rfl⟩)
set_option maxHeartbeats 1000000 in
theorem z_L_copyClock (ad ae : Nat → Nat) (cs : ClassId × ClassId × ClassId) (S : mS) (T : mT2) (J : mJ) (rest : va_W) (hS : sWF S) (ao : Nat) (n0 : Int64) (s0 : Value) (a0 : Int) (h0 : rJ a0) (a1 : Int) (h1 : rJ a1)  : mCw (mTy cs) yL_copyClock cL_copyClock 5 (some .int) [(0, 11, 14, 19)] ⟨8, 2, 12, 127⟩ [.ref (ad 0), .int (iZ a0), .int (iZ a1), .ref ao] (mRw ad ae cs (mKof S T) J ((ao, .inr (4, [.long n0, s0])) :: rest)) (fun v ws' => ((((0 ≤ a0 ∧ a0 < 3) ∧ (0 ≤ a1 ∧ a1 < 3)) ∧ (0 ≤ (0 : Int))) ∧ v = some (.int 0) ∧ ws' = (mRw ad ae cs (mKof (oClk S a0.toNat (sse S (a1.toNat + 4)) (sna S (a1.toNat + 4)) (sow S (a1.toNat + 4))).2 T) J ((ao, .inr (4, [.long (iZ (oClk S a0.toNat (sse S (a1.toNat + 4)) (sna S (a1.toNat + 4)) (sow S (a1.toNat + 4))).1).toInt64, s0])) :: rest))) ∨ (¬ ((0 ≤ a0 ∧ a0 < 3) ∧ (0 ≤ a1 ∧ a1 < 3)) ∧ v = some (.int 1) ∧ ws' = (mRw ad ae cs (mKof S T) J ((ao, .inr (4, [.long n0, s0])) :: rest))) ∨ (((0 ≤ a0 ∧ a0 < 3) ∧ (0 ≤ a1 ∧ a1 < 3)) ∧ ¬ (0 ≤ (0 : Int)) ∧ v = some (.int 2) ∧ ws' = (mRw ad ae cs (mKof S T) J ((ao, .inr (4, [.long n0, s0])) :: rest)))) := by
  refine mCw.of (by decide +kernel) (Nat.le_of_ble_eq_true rfl) (fun X hX hg hE => ?_)
  replace hX : mOK X RL cL_copyClock 5 ⟨8, 2, 12, 127⟩ [(0, 11, 14, 19)] (mTy cs) := hX
  refine r_aload_n hX dL_copyClock_0 rfl rfl ?_
  refine r_aload_n hX dL_copyClock_1 rfl rfl ?_
  refine r_iload_n hX dL_copyClock_2 rfl rfl ?_
  refine r_iload_n hX dL_copyClock_3 rfl rfl ?_
  refine r_callV hX (z_X2_copyClock ad cs S T (mMd ae cs J ((ao, .inr (4, [.long n0, s0])) :: rest)) hS _ h0 _ h1) kv_L_114 0 rfl rfl rfl rfl (Nat.le_of_ble_eq_true rfl) ⟨(Nat.le_of_ble_eq_true rfl), (Nat.le_of_ble_eq_true rfl)⟩ ⟨(Nat.le_of_ble_eq_true rfl), (Nat.le_of_ble_eq_true rfl)⟩ dL_copyClock_4 (fun E ws9 z => ?_) (fun v9 ws9 h9 => ?_)
  · obtain ⟨rfl, ⟨rfl, zi⟩ | ⟨rfl, zi, za⟩⟩ := z
    ·
      refine r_catch1 hX rfl (by decide) kl_L_19 kca_I (fun q => ?_)
      refine r_astore hX dL_copyClock_14 (by decide) rfl ?_
      refine r_iconst (v := 1) hX dL_copyClock_16 (by decide) ?_
      exact r_iret hX hE dL_copyClock_17 (Nat.le_of_ble_eq_true rfl) (Nat.le_of_ble_eq_true rfl) (Or.inr (Or.inl ⟨zi, rfl, rfl⟩))
    · exact absurd (by decide) za
  obtain ⟨hg9, rfl, hw9⟩ := h9
  subst ws9
  dsimp only [mPush]
  refine r_i2l hX dL_copyClock_7 ?_
  refine r_putN hX kg_L_13 21 rfl rfl rfl rfl (Nat.le_of_ble_eq_true rfl) dL_copyClock_8 ?_
  refine r_goto (tgt := 18) hX dL_copyClock_11 (by decide) ?_
  refine r_iconst (v := 0) hX dL_copyClock_18 (by decide) ?_
  exact r_iret hX hE dL_copyClock_19 (Nat.le_of_ble_eq_true rfl) (Nat.le_of_ble_eq_true rfl) (Or.inl ⟨hg9, rfl, rfl⟩)
set_option maxHeartbeats 1000000 in
theorem z_L_ofClock (ad ae : Nat → Nat) (cs : ClassId × ClassId × ClassId) (S : mS) (T : mT2) (J : mJ) (rest : va_W) (hS : sWF S) (ao : Nat) (n0 : Int64) (s0 : Value) (a0 : Int) (h0 : rJ a0) (a1 : Int) (h1 : rJ a1)  : mCw (mTy cs) yL_ofClock cL_ofClock 5 (some .int) [(0, 11, 14, 19), (0, 11, 18, 21)] ⟨8, 2, 12, 127⟩ [.ref (ad 0), .int (iZ a0), .int (iZ a1), .ref ao] (mRw ad ae cs (mKof S T) J ((ao, .inr (4, [.long n0, s0])) :: rest)) (fun v ws' => ((((0 ≤ a0 ∧ a0 < 3)) ∧ (0 ≤ a1 ∧ a1 ≤ 5)) ∧ v = some (.int 0) ∧ ws' = (mRw ad ae cs (mKof S T) J ((ao, .inr (4, [.long (iZ (zCP (sse S (a0.toNat + 4)) (sna S (a0.toNat + 4)) (sow S (a0.toNat + 4)) a1)).toInt64, s0])) :: rest))) ∨ (¬ ((0 ≤ a0 ∧ a0 < 3)) ∧ v = some (.int 1) ∧ ws' = (mRw ad ae cs (mKof S T) J ((ao, .inr (4, [.long n0, s0])) :: rest))) ∨ (((0 ≤ a0 ∧ a0 < 3)) ∧ ¬ (0 ≤ a1 ∧ a1 ≤ 5) ∧ v = some (.int 2) ∧ ws' = (mRw ad ae cs (mKof S T) J ((ao, .inr (4, [.long n0, s0])) :: rest)))) := by
  refine mCw.of (by decide +kernel) (Nat.le_of_ble_eq_true rfl) (fun X hX hg hE => ?_)
  replace hX : mOK X RL cL_ofClock 5 ⟨8, 2, 12, 127⟩ [(0, 11, 14, 19), (0, 11, 18, 21)] (mTy cs) := hX
  refine r_aload_n hX dL_ofClock_0 rfl rfl ?_
  refine r_aload_n hX dL_ofClock_1 rfl rfl ?_
  refine r_iload_n hX dL_ofClock_2 rfl rfl ?_
  refine r_iload_n hX dL_ofClock_3 rfl rfl ?_
  refine r_callV hX (z_X2_ofClock ad cs S T (mMd ae cs J ((ao, .inr (4, [.long n0, s0])) :: rest)) hS _ h0 _ h1) kv_L_117 0 rfl rfl rfl rfl (Nat.le_of_ble_eq_true rfl) ⟨(Nat.le_of_ble_eq_true rfl), (Nat.le_of_ble_eq_true rfl)⟩ ⟨(Nat.le_of_ble_eq_true rfl), (Nat.le_of_ble_eq_true rfl)⟩ dL_ofClock_4 (fun E ws9 z => ?_) (fun v9 ws9 h9 => ?_)
  · obtain ⟨rfl, ⟨rfl, zi⟩ | ⟨rfl, zi, za⟩⟩ := z
    ·
      refine r_catch1 hX rfl (by decide) kl_L_19 kca_I (fun q => ?_)
      refine r_astore hX dL_ofClock_14 (by decide) rfl ?_
      refine r_iconst (v := 1) hX dL_ofClock_16 (by decide) ?_
      exact r_iret hX hE dL_ofClock_17 (Nat.le_of_ble_eq_true rfl) (Nat.le_of_ble_eq_true rfl) (Or.inr (Or.inl ⟨zi, rfl, rfl⟩))
    ·
      refine r_catch2 hX hg (by decide) kl_L_19 rfl (by decide) kl_L_21 (fun q => ?_)
      refine r_astore hX dL_ofClock_18 (by decide) rfl ?_
      refine r_iconst (v := 2) hX dL_ofClock_20 (by decide) ?_
      exact r_iret hX hE dL_ofClock_21 (Nat.le_of_ble_eq_true rfl) (Nat.le_of_ble_eq_true rfl) (Or.inr (Or.inr ⟨zi, za, rfl, rfl⟩))
  obtain ⟨hg9, rfl, hw9⟩ := h9
  subst ws9
  dsimp only [mPush]
  refine r_i2l hX dL_ofClock_7 ?_
  refine r_putN hX kg_L_13 21 rfl rfl rfl rfl (Nat.le_of_ble_eq_true rfl) dL_ofClock_8 ?_
  refine r_goto (tgt := 22) hX dL_ofClock_11 (by decide) ?_
  refine r_iconst (v := 0) hX dL_ofClock_22 (by decide) ?_
  exact r_iret hX hE dL_ofClock_23 (Nat.le_of_ble_eq_true rfl) (Nat.le_of_ble_eq_true rfl) (Or.inl ⟨hg9, rfl, rfl⟩)
set_option maxHeartbeats 1000000 in
theorem z_L_orderClock (ad ae : Nat → Nat) (cs : ClassId × ClassId × ClassId) (S : mS) (T : mT2) (J : mJ) (rest : va_W) (hS : sWF S) (ao : Nat) (n0 : Int64) (s0 : Value) (a0 : Int) (h0 : rJ a0) (a1 : Int) (h1 : rJ a1)  : mCw (mTy cs) yL_orderClock cL_orderClock 5 (some .int) [(0, 11, 14, 19)] ⟨8, 2, 12, 125⟩ [.ref (ad 0), .int (iZ a0), .int (iZ a1), .ref ao] (mRw ad ae cs (mKof S T) J ((ao, .inr (4, [.long n0, s0])) :: rest)) (fun v ws' => ((((0 ≤ a0 ∧ a0 < 3) ∧ (0 ≤ a1 ∧ a1 < 3)) ∧ (0 ≤ (0 : Int))) ∧ v = some (.int 0) ∧ ws' = (mRw ad ae cs (mKof S T) J ((ao, .inr (4, [.long (iZ (zTo (sse S (a0.toNat + 4)) (sna S (a0.toNat + 4)) (sow S (a0.toNat + 4)) (sse S (a1.toNat + 4)) (sna S (a1.toNat + 4)) (sow S (a1.toNat + 4)))).toInt64, s0])) :: rest))) ∨ (¬ ((0 ≤ a0 ∧ a0 < 3) ∧ (0 ≤ a1 ∧ a1 < 3)) ∧ v = some (.int 1) ∧ ws' = (mRw ad ae cs (mKof S T) J ((ao, .inr (4, [.long n0, s0])) :: rest))) ∨ (((0 ≤ a0 ∧ a0 < 3) ∧ (0 ≤ a1 ∧ a1 < 3)) ∧ ¬ (0 ≤ (0 : Int)) ∧ v = some (.int 2) ∧ ws' = (mRw ad ae cs (mKof S T) J ((ao, .inr (4, [.long n0, s0])) :: rest)))) := by
  refine mCw.of (by decide +kernel) (Nat.le_of_ble_eq_true rfl) (fun X hX hg hE => ?_)
  replace hX : mOK X RL cL_orderClock 5 ⟨8, 2, 12, 125⟩ [(0, 11, 14, 19)] (mTy cs) := hX
  refine r_aload_n hX dL_orderClock_0 rfl rfl ?_
  refine r_aload_n hX dL_orderClock_1 rfl rfl ?_
  refine r_iload_n hX dL_orderClock_2 rfl rfl ?_
  refine r_iload_n hX dL_orderClock_3 rfl rfl ?_
  refine r_callV hX (z_X2_orderClock ad cs S T (mMd ae cs J ((ao, .inr (4, [.long n0, s0])) :: rest)) hS _ h0 _ h1) kv_L_120 0 rfl rfl rfl rfl (Nat.le_of_ble_eq_true rfl) ⟨(Nat.le_of_ble_eq_true rfl), (Nat.le_of_ble_eq_true rfl)⟩ ⟨(Nat.le_of_ble_eq_true rfl), (Nat.le_of_ble_eq_true rfl)⟩ dL_orderClock_4 (fun E ws9 z => ?_) (fun v9 ws9 h9 => ?_)
  · obtain ⟨rfl, ⟨rfl, zi⟩ | ⟨rfl, zi, za⟩⟩ := z
    ·
      refine r_catch1 hX rfl (by decide) kl_L_19 kca_I (fun q => ?_)
      refine r_astore hX dL_orderClock_14 (by decide) rfl ?_
      refine r_iconst (v := 1) hX dL_orderClock_16 (by decide) ?_
      exact r_iret hX hE dL_orderClock_17 (Nat.le_of_ble_eq_true rfl) (Nat.le_of_ble_eq_true rfl) (Or.inr (Or.inl ⟨zi, rfl, rfl⟩))
    · exact absurd (by decide) za
  obtain ⟨hg9, rfl, hw9⟩ := h9
  subst ws9
  dsimp only [mPush]
  refine r_i2l hX dL_orderClock_7 ?_
  refine r_putN hX kg_L_13 21 rfl rfl rfl rfl (Nat.le_of_ble_eq_true rfl) dL_orderClock_8 ?_
  refine r_goto (tgt := 18) hX dL_orderClock_11 (by decide) ?_
  refine r_iconst (v := 0) hX dL_orderClock_18 (by decide) ?_
  exact r_iret hX hE dL_orderClock_19 (Nat.le_of_ble_eq_true rfl) (Nat.le_of_ble_eq_true rfl) (Or.inl ⟨hg9, rfl, rfl⟩)
set_option maxHeartbeats 1000000 in
theorem z_L_isClock (ad ae : Nat → Nat) (cs : ClassId × ClassId × ClassId) (S : mS) (T : mT2) (J : mJ) (rest : va_W) (hS : sWF S) (ao : Nat) (n0 : Int64) (s0 : Value) (a0 : Int) (h0 : rJ a0) (a1 : Int) (h1 : rJ a1) (a2 : Int) (h2 : rJ a2)  : mCw (mTy cs) yL_isClock cL_isClock 6 (some .int) [(0, 20, 23, 19), (0, 20, 27, 21)] ⟨8, 3, 18, 129⟩ [.ref (ad 0), .int (iZ a0), .int (iZ a1), .int (iZ a2), .ref ao] (mRw ad ae cs (mKof S T) J ((ao, .inr (4, [.long n0, s0])) :: rest)) (fun v ws' => ((((0 ≤ a0 ∧ a0 < 3) ∧ (0 ≤ a1 ∧ a1 < 3)) ∧ (0 ≤ a2 ∧ a2 ≤ 3)) ∧ v = some (.int 0) ∧ ws' = (mRw ad ae cs (mKof S T) J ((ao, .inr (4, [.long (cond (zSo (sse S (a0.toNat + 4)) (sna S (a0.toNat + 4)) (sow S (a0.toNat + 4)) (sse S (a1.toNat + 4)) (sna S (a1.toNat + 4)) (sow S (a1.toNat + 4)) a2) 1 0), s0])) :: rest))) ∨ (¬ ((0 ≤ a0 ∧ a0 < 3) ∧ (0 ≤ a1 ∧ a1 < 3)) ∧ v = some (.int 1) ∧ ws' = (mRw ad ae cs (mKof S T) J ((ao, .inr (4, [.long n0, s0])) :: rest))) ∨ (((0 ≤ a0 ∧ a0 < 3) ∧ (0 ≤ a1 ∧ a1 < 3)) ∧ ¬ (0 ≤ a2 ∧ a2 ≤ 3) ∧ v = some (.int 2) ∧ ws' = (mRw ad ae cs (mKof S T) J ((ao, .inr (4, [.long n0, s0])) :: rest)))) := by
  refine mCw.of (by decide +kernel) (Nat.le_of_ble_eq_true rfl) (fun X hX hg hE => ?_)
  replace hX : mOK X RL cL_isClock 6 ⟨8, 3, 18, 129⟩ [(0, 20, 23, 19), (0, 20, 27, 21)] (mTy cs) := hX
  refine r_aload hX dL_isClock_0 rfl ?_
  refine r_aload_n hX dL_isClock_2 rfl rfl ?_
  refine r_iload_n hX dL_isClock_3 rfl rfl ?_
  refine r_iload_n hX dL_isClock_4 rfl rfl ?_
  refine r_iload_n hX dL_isClock_5 rfl rfl ?_
  refine r_callV hX (z_X2_isClock ad cs S T (mMd ae cs J ((ao, .inr (4, [.long n0, s0])) :: rest)) hS _ h0 _ h1 _ h2) kv_L_123 0 rfl rfl rfl rfl (Nat.le_of_ble_eq_true rfl) ⟨(Nat.le_of_ble_eq_true rfl), (Nat.le_of_ble_eq_true rfl)⟩ ⟨(Nat.le_of_ble_eq_true rfl), (Nat.le_of_ble_eq_true rfl)⟩ dL_isClock_6 (fun E ws9 z => ?_) (fun v9 ws9 h9 => ?_)
  · obtain ⟨rfl, ⟨rfl, zi⟩ | ⟨rfl, zi, za⟩⟩ := z
    ·
      refine r_catch1 hX rfl (by decide) kl_L_19 kca_I (fun q => ?_)
      refine r_astore hX dL_isClock_23 (by decide) rfl ?_
      refine r_iconst (v := 1) hX dL_isClock_25 (by decide) ?_
      exact r_iret hX hE dL_isClock_26 (Nat.le_of_ble_eq_true rfl) (Nat.le_of_ble_eq_true rfl) (Or.inr (Or.inl ⟨zi, rfl, rfl⟩))
    ·
      refine r_catch2 hX hg (by decide) kl_L_19 rfl (by decide) kl_L_21 (fun q => ?_)
      refine r_astore hX dL_isClock_27 (by decide) rfl ?_
      refine r_iconst (v := 2) hX dL_isClock_29 (by decide) ?_
      exact r_iret hX hE dL_isClock_30 (Nat.le_of_ble_eq_true rfl) (Nat.le_of_ble_eq_true rfl) (Or.inr (Or.inr ⟨zi, za, rfl, rfl⟩))
  obtain ⟨hg9, rfl, hw9⟩ := h9
  subst ws9
  dsimp only [mPush]
  refine r_if_eqB (tgt := 16) hX dL_isClock_9 (by decide) (fun c => ?_) (fun c => ?_)
  · refine r_lconst (v := 0) hX dL_isClock_16 (by decide) ?_
    refine r_putN hX kg_L_13 21 rfl rfl rfl rfl (Nat.le_of_ble_eq_true rfl) dL_isClock_17 ?_
    refine r_goto (tgt := 31) hX dL_isClock_20 (by decide) ?_
    refine r_iconst (v := 0) hX dL_isClock_31 (by decide) ?_
    exact r_iret hX hE dL_isClock_32 (Nat.le_of_ble_eq_true rfl) (Nat.le_of_ble_eq_true rfl) (Or.inl ⟨hg9, rfl, by rw [c]; rfl⟩)
  · refine r_lconst (v := 1) hX dL_isClock_12 (by decide) ?_
    refine r_goto (tgt := 17) hX dL_isClock_13 (by decide) ?_
    refine r_putN hX kg_L_13 21 rfl rfl rfl rfl (Nat.le_of_ble_eq_true rfl) dL_isClock_17 ?_
    refine r_goto (tgt := 31) hX dL_isClock_20 (by decide) ?_
    refine r_iconst (v := 0) hX dL_isClock_31 (by decide) ?_
    exact r_iret hX hE dL_isClock_32 (Nat.le_of_ble_eq_true rfl) (Nat.le_of_ble_eq_true rfl) (Or.inl ⟨hg9, rfl, by rw [c]; rfl⟩)
set_option maxHeartbeats 1000000 in
theorem z_L_house (ad ae : Nat → Nat) (cs : ClassId × ClassId × ClassId) (S : mS) (T : mT2) (J : mJ) (rest : va_W) (hS : sWF S) (ao : Nat) (n0 : Int64) (s0 : Value) (a0 : Int) (h0 : rJ a0)  : mCw (mTy cs) yL_house cL_house 4 (some .int) [(0, 10, 13, 21)] ⟨8, 1, 6, 125⟩ [.ref (ad 0), .int (iZ a0), .ref ao] (mRw ad ae cs (mKof S T) J ((ao, .inr (4, [.long n0, s0])) :: rest)) (fun v ws' => ((((0 ≤ a0 ∧ a0 ≤ 3)) ∧ (0 ≤ (0 : Int))) ∧ v = some (.int 0) ∧ ws' = (mRw ad ae cs (mKof S T) J ((ao, .inr (4, [.long (iZ (zHo S a0).toInt).toInt64, s0])) :: rest))) ∨ (¬ ((0 ≤ a0 ∧ a0 ≤ 3)) ∧ v = some (.int 1) ∧ ws' = (mRw ad ae cs (mKof S T) J ((ao, .inr (4, [.long n0, s0])) :: rest))) ∨ (((0 ≤ a0 ∧ a0 ≤ 3)) ∧ ¬ (0 ≤ (0 : Int)) ∧ v = some (.int 2) ∧ ws' = (mRw ad ae cs (mKof S T) J ((ao, .inr (4, [.long n0, s0])) :: rest)))) := by
  refine mCw.of (by decide +kernel) (Nat.le_of_ble_eq_true rfl) (fun X hX hg hE => ?_)
  replace hX : mOK X RL cL_house 4 ⟨8, 1, 6, 125⟩ [(0, 10, 13, 21)] (mTy cs) := hX
  refine r_aload_n hX dL_house_0 rfl rfl ?_
  refine r_aload_n hX dL_house_1 rfl rfl ?_
  refine r_iload_n hX dL_house_2 rfl rfl ?_
  refine r_callV hX (z_X2_houseP ad cs S T (mMd ae cs J ((ao, .inr (4, [.long n0, s0])) :: rest)) hS _ h0) kv_L_126 0 rfl rfl rfl rfl (Nat.le_of_ble_eq_true rfl) ⟨(Nat.le_of_ble_eq_true rfl), (Nat.le_of_ble_eq_true rfl)⟩ ⟨(Nat.le_of_ble_eq_true rfl), (Nat.le_of_ble_eq_true rfl)⟩ dL_house_3 (fun E ws9 z => ?_) (fun v9 ws9 h9 => ?_)
  · obtain ⟨rfl, ⟨rfl, zi⟩ | ⟨rfl, zi, za⟩⟩ := z
    ·
      refine r_catch1 hX rfl (by decide) kl_L_21 kca_A (fun q => ?_)
      refine r_astore_n hX dL_house_13 rfl (by decide) rfl ?_
      refine r_iconst (v := 1) hX dL_house_14 (by decide) ?_
      exact r_iret hX hE dL_house_15 (Nat.le_of_ble_eq_true rfl) (Nat.le_of_ble_eq_true rfl) (Or.inr (Or.inl ⟨zi, rfl, rfl⟩))
    · exact absurd (by decide) za
  obtain ⟨hg9, rfl, hw9⟩ := h9
  subst ws9
  dsimp only [mPush]
  refine r_i2l hX dL_house_6 ?_
  refine r_putN hX kg_L_13 21 rfl rfl rfl rfl (Nat.le_of_ble_eq_true rfl) dL_house_7 ?_
  refine r_goto (tgt := 16) hX dL_house_10 (by decide) ?_
  refine r_iconst (v := 0) hX dL_house_16 (by decide) ?_
  exact r_iret hX hE dL_house_17 (Nat.le_of_ble_eq_true rfl) (Nat.le_of_ble_eq_true rfl) (Or.inl ⟨hg9, rfl, rfl⟩)
set_option maxHeartbeats 1000000 in
theorem c_L_millis_x (ad ae : Nat → Nat) (cs : ClassId × ClassId × ClassId) (K : mK) (J : mJ) (rest : va_W) (ao : Nat) (n0 : Int64) (s0 : Value) (p0 : Int32) : mCw (mTy cs) yL_millis cL_millis 4 (some .int) [(0, 9, 12, 19)] ⟨8, 31, 1506, 331⟩ [.ref (ad 0), .int p0, .ref ao] (mRw ad ae cs K J ((ao, .inr (4, [.long n0, s0])) :: rest)) (fun v ws' => ∃ (r : Int32) (n1 : Int64) (s1 : Value), v = some (.int r) ∧ ws' = mRw ad ae cs K J ((ao, .inr (4, [.long n1, s1])) :: rest)) := by
  refine mCw.of (by decide +kernel) (Nat.le_of_ble_eq_true rfl) (fun X hX hg hE => ?_)
  replace hX : mOK X RL cL_millis 4 ⟨8, 31, 1506, 331⟩ [(0, 9, 12, 19)] (mTy cs) := hX
  refine r_aload_n hX dL_millis_0 rfl rfl ?_
  refine r_aload_n hX dL_millis_1 rfl rfl ?_
  refine r_iload_n hX dL_millis_2 rfl rfl ?_
  have kx : ∀ (E : String) (ws9 : va_W), mTh [xI] (mRw ad ae cs K J ((ao, .inr (4, [.long n0, s0])) :: rest)) E ws9 → mT X 3 [(0, some (.ref (ad 0))), (1, some (.int p0)), (2, some (.ref ao))] [.ref ao] ws9 (0 + 31) (0 + 1506) E := by
    intro E ws9 z
    obtain ⟨zE, zw⟩ := z
    subst zw
    obtain rfl := List.mem_singleton.mp zE
    refine r_catch1 hX rfl (by decide) kl_L_19 kca_I (fun q => ?_)
    refine r_astore_n hX dL_millis_12 rfl (by decide) rfl ?_
    refine r_iconst (v := 1) hX dL_millis_13 (by decide) ?_
    exact r_iret hX hE dL_millis_14 (Nat.le_of_ble_eq_true rfl) (Nat.le_of_ble_eq_true rfl) ⟨_, _, _, rfl, rfl⟩
  refine r_callV hX (c_X2_millis ad cs K _ _) kv_L_52 0 rfl rfl rfl rfl (Nat.le_of_ble_eq_true rfl) ⟨(Nat.le_of_ble_eq_true rfl), (Nat.le_of_ble_eq_true rfl)⟩ ⟨(Nat.le_of_ble_eq_true rfl), (Nat.le_of_ble_eq_true rfl)⟩ dL_millis_3 kx (fun v9 ws9 h9 => ?_)
  obtain ⟨⟨s, rfl⟩, hw9⟩ := h9
  subst ws9
  dsimp only [mPush]
  refine r_putN hX kg_L_56 21 rfl rfl rfl rfl (Nat.le_of_ble_eq_true rfl) dL_millis_6 ?_
  refine r_goto (tgt := 15) hX dL_millis_9 (by decide) ?_
  refine r_iconst (v := 0) hX dL_millis_15 (by decide) ?_
  exact r_iret hX hE dL_millis_16 (Nat.le_of_ble_eq_true rfl) (Nat.le_of_ble_eq_true rfl) ⟨_, _, _, rfl, rfl⟩

