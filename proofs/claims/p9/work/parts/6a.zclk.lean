/-! The class, exact (rows by a program of this repository). -/
set_option maxHeartbeats 4000000 in
set_option maxRecDepth 20000 in
theorem z_X2_clock (ad : Nat → Nat) (cs : ClassId × ClassId × ClassId) (S : mS) (T : mT2) (rest : va_W) (hS : sWF S) (a0 : Int) (h0 : rJ a0) (a1 : Int) (h1 : rJ a1) (a2 : Int) (h2 : rJ a2) (a3 : Int) (h3 : rJ a3)  : mCt (mTy cs) yX2_clock cX2_clock 7 (some .int) ⟨8, 4, 24, 124⟩ [.ref (ad 0), .int (iZ a0), .int (iZ a1), .int (iZ a2), .int (iZ a3)] (mWd ad cs (mKof S T) rest) (fun v ws' => (((0 ≤ a0 ∧ a0 < 3) ∧ (0 ≤ a3 ∧ a3 < 4)) ∧ ((0 ≤ a1 ∧ a1 ≤ 86399) ∧ (0 ≤ a2 ∧ a2 ≤ 999999999))) ∧ v = some (.int (iZ (oClk S a0.toNat a1 a2 (sof S a3.toNat)).1)) ∧ ws' = mWd ad cs (mKof (oClk S a0.toNat a1 a2 (sof S a3.toNat)).2 T) rest) (fun E ws' => ws' = mWd ad cs (mKof S T) rest ∧ ((E = xI ∧ ¬ ((0 ≤ a0 ∧ a0 < 3) ∧ (0 ≤ a3 ∧ a3 < 4))) ∨ (E = xA ∧ ((0 ≤ a0 ∧ a0 < 3) ∧ (0 ≤ a3 ∧ a3 < 4)) ∧ ¬ ((0 ≤ a1 ∧ a1 ≤ 86399) ∧ (0 ≤ a2 ∧ a2 ≤ 999999999))))) := by
  refine mCt.of (by decide +kernel) (Nat.le_of_ble_eq_true rfl) (fun X hX hE => ?_)
  replace hX : mOK X RX2 cX2_clock 7 ⟨8, 4, 24, 124⟩ [] (mTy cs) := hX
  refine r_aload_n hX dX2_clock_0 rfl rfl ?_
  refine r_get hX kf_X2_24 0 rfl rfl dX2_clock_1 ?_
  refine r_iload_n hX dX2_clock_4 rfl rfl ?_
  refine r_callS hX (z_X2_at ad cs _ 4 _ 3 4 rfl (by decide) _ (by omega)) ks_X2_84 rfl rfl (Nat.le_of_ble_eq_true rfl) ⟨(Nat.le_of_ble_eq_true rfl), (Nat.le_of_ble_eq_true rfl)⟩ ⟨(Nat.le_of_ble_eq_true rfl), (Nat.le_of_ble_eq_true rfl)⟩ dX2_clock_5 (fun E ws9 z => r_out hX hE (Nat.le_of_ble_eq_true rfl) (Nat.le_of_ble_eq_true rfl) ⟨z.2.1, Or.inl ⟨z.1, fun q => z.2.2 (by omega)⟩⟩) (fun v9 ws9 h1 => ?_)
  obtain ⟨hi2, rfl, hw9⟩ := h1
  subst ws9
  dsimp only [mPush]
  refine r_astore hX dX2_clock_8 (by decide) rfl ?_
  refine r_aload_n hX dX2_clock_10 rfl rfl ?_
  refine r_iload hX dX2_clock_11 rfl ?_
  refine r_callV hX (z_X2_seconds ad cs S T rest hS _ (by omega)) kv_X2_64 0 rfl rfl rfl rfl (Nat.le_of_ble_eq_true rfl) ⟨(Nat.le_of_ble_eq_true rfl), (Nat.le_of_ble_eq_true rfl)⟩ ⟨(Nat.le_of_ble_eq_true rfl), (Nat.le_of_ble_eq_true rfl)⟩ dX2_clock_13 (fun E ws9 z => r_out hX hE (Nat.le_of_ble_eq_true rfl) (Nat.le_of_ble_eq_true rfl) ⟨z.2.1, Or.inl ⟨z.1, fun q => z.2.2 (by omega)⟩⟩) (fun v9 ws9 h3 => ?_)
  obtain ⟨hi4, rfl, hw9⟩ := h3
  subst ws9
  dsimp only [mPush]
  have hof4 := hS.1 a3.toNat (by omega)
  refine r_istore hX dX2_clock_16 (by decide) rfl ?_
  refine r_iload_n hX dX2_clock_18 rfl rfl ?_
  refine r_iconstZ hX dX2_clock_19 ?_
  refine r_ldcZ (z := 86399) hX kc_X2_114 (by decide) dX2_clock_20 ?_
  refine r_callS hX (z_X2_requireWithin _ _ _ _ _ (by omega) (by omega) (by omega)) ks_X2_40 rfl rfl (Nat.le_of_ble_eq_true rfl) ⟨(Nat.le_of_ble_eq_true rfl), (Nat.le_of_ble_eq_true rfl)⟩ ⟨(Nat.le_of_ble_eq_true rfl), (Nat.le_of_ble_eq_true rfl)⟩ dX2_clock_22 (fun E ws9 z => r_out hX hE (Nat.le_of_ble_eq_true rfl) (Nat.le_of_ble_eq_true rfl) ⟨z.2.1, Or.inr ⟨z.1, by omega, fun q => z.2.2 (by omega)⟩⟩) (fun v9 ws9 h5 => ?_)
  obtain ⟨hi6, rfl, hw9⟩ := h5
  subst ws9
  dsimp only [mPush]
  refine r_iload_n hX dX2_clock_25 rfl rfl ?_
  refine r_iconstZ hX dX2_clock_26 ?_
  refine r_ldcZ (z := 999999999) hX kc_X2_115 (by decide) dX2_clock_27 ?_
  refine r_callS hX (z_X2_requireWithin _ _ _ _ _ (by omega) (by omega) (by omega)) ks_X2_40 rfl rfl (Nat.le_of_ble_eq_true rfl) ⟨(Nat.le_of_ble_eq_true rfl), (Nat.le_of_ble_eq_true rfl)⟩ ⟨(Nat.le_of_ble_eq_true rfl), (Nat.le_of_ble_eq_true rfl)⟩ dX2_clock_29 (fun E ws9 z => r_out hX hE (Nat.le_of_ble_eq_true rfl) (Nat.le_of_ble_eq_true rfl) ⟨z.2.1, Or.inr ⟨z.1, by omega, fun q => z.2.2 (by omega)⟩⟩) (fun v9 ws9 h7 => ?_)
  obtain ⟨hi8, rfl, hw9⟩ := h7
  subst ws9
  dsimp only [mPush]
  refine r_aload_n hX dX2_clock_32 rfl rfl ?_
  refine r_aload hX dX2_clock_33 rfl ?_
  refine r_iload_n hX dX2_clock_35 rfl rfl ?_
  refine r_i2lZ hX dX2_clock_36 (by omega) ?_
  refine r_iload_n hX dX2_clock_37 rfl rfl ?_
  refine r_iload hX dX2_clock_38 rfl ?_
  refine r_callV hX (z_X2_putClock ad cs S T rest hS a0.toNat (by omega) _ _ _ (by omega) (by omega) (by omega)) kv_X2_187 0 rfl rfl rfl rfl (Nat.le_of_ble_eq_true rfl) ⟨(Nat.le_of_ble_eq_true rfl), (Nat.le_of_ble_eq_true rfl)⟩ ⟨(Nat.le_of_ble_eq_true rfl), (Nat.le_of_ble_eq_true rfl)⟩ dX2_clock_40 (fun _ _ z => False.elim z) (fun v9 ws9 h9 => ?_)
  obtain ⟨rfl, hw9⟩ := h9
  subst ws9
  dsimp only [mPush]
  refine r_iret hX hE dX2_clock_43 (Nat.le_of_ble_eq_true rfl) (Nat.le_of_ble_eq_true rfl) ⟨by omega, ?_⟩
  exact ⟨rfl, rfl⟩
set_option maxHeartbeats 4000000 in
set_option maxRecDepth 20000 in
theorem z_X2_clockOf (ad : Nat → Nat) (cs : ClassId × ClassId × ClassId) (S : mS) (T : mT2) (rest : va_W) (hS : sWF S) (a0 : Int) (h0 : rJ a0) (a1 : Int) (h1 : rJ a1)  : mCt (mTy cs) yX2_clockOf cX2_clockOf 5 (some .int) ⟨7, 2, 12, 103⟩ [.ref (ad 0), .int (iZ a0), .int (iZ a1)] (mWd ad cs (mKof S T) rest) (fun v ws' => (((0 ≤ a0 ∧ a0 < 3) ∧ (0 ≤ a1 ∧ a1 < 4)) ∧ (0 ≤ (0 : Int))) ∧ v = some (.int (iZ (oClk S a0.toNat (sse S a1.toNat) (sna S a1.toNat) (sow S a1.toNat)).1)) ∧ ws' = mWd ad cs (mKof (oClk S a0.toNat (sse S a1.toNat) (sna S a1.toNat) (sow S a1.toNat)).2 T) rest) (fun E ws' => ws' = mWd ad cs (mKof S T) rest ∧ ((E = xI ∧ ¬ ((0 ≤ a0 ∧ a0 < 3) ∧ (0 ≤ a1 ∧ a1 < 4))) ∨ (E = xA ∧ ((0 ≤ a0 ∧ a0 < 3) ∧ (0 ≤ a1 ∧ a1 < 4)) ∧ ¬ (0 ≤ (0 : Int))))) := by
  refine mCt.of (by decide +kernel) (Nat.le_of_ble_eq_true rfl) (fun X hX hE => ?_)
  replace hX : mOK X RX2 cX2_clockOf 5 ⟨7, 2, 12, 103⟩ [] (mTy cs) := hX
  refine r_aload_n hX dX2_clockOf_0 rfl rfl ?_
  refine r_get hX kf_X2_24 0 rfl rfl dX2_clockOf_1 ?_
  refine r_iload_n hX dX2_clockOf_4 rfl rfl ?_
  refine r_callS hX (z_X2_at ad cs _ 4 _ 3 4 rfl (by decide) _ (by omega)) ks_X2_84 rfl rfl (Nat.le_of_ble_eq_true rfl) ⟨(Nat.le_of_ble_eq_true rfl), (Nat.le_of_ble_eq_true rfl)⟩ ⟨(Nat.le_of_ble_eq_true rfl), (Nat.le_of_ble_eq_true rfl)⟩ dX2_clockOf_5 (fun E ws9 z => r_out hX hE (Nat.le_of_ble_eq_true rfl) (Nat.le_of_ble_eq_true rfl) ⟨z.2.1, Or.inl ⟨z.1, fun q => z.2.2 (by omega)⟩⟩) (fun v9 ws9 h1 => ?_)
  obtain ⟨hi2, rfl, hw9⟩ := h1
  subst ws9
  dsimp only [mPush]
  refine r_astore_n hX dX2_clockOf_8 rfl (by decide) rfl ?_
  refine r_aload_n hX dX2_clockOf_9 rfl rfl ?_
  refine r_get hX kf_X2_20 0 rfl rfl dX2_clockOf_10 ?_
  refine r_iload_n hX dX2_clockOf_13 rfl rfl ?_
  refine r_callS hX (z_X2_at ad cs _ 3 _ 4 0 rfl (by decide) _ (by omega)) ks_X2_84 rfl rfl (Nat.le_of_ble_eq_true rfl) ⟨(Nat.le_of_ble_eq_true rfl), (Nat.le_of_ble_eq_true rfl)⟩ ⟨(Nat.le_of_ble_eq_true rfl), (Nat.le_of_ble_eq_true rfl)⟩ dX2_clockOf_14 (fun E ws9 z => r_out hX hE (Nat.le_of_ble_eq_true rfl) (Nat.le_of_ble_eq_true rfl) ⟨z.2.1, Or.inl ⟨z.1, fun q => z.2.2 (by omega)⟩⟩) (fun v9 ws9 h3 => ?_)
  obtain ⟨hi4, rfl, hw9⟩ := h3
  subst ws9
  dsimp only [mPush]
  refine r_astore hX dX2_clockOf_17 (by decide) rfl ?_
  refine r_aload_n hX dX2_clockOf_19 rfl rfl ?_
  refine r_aload_n hX dX2_clockOf_20 rfl rfl ?_
  refine r_aload hX dX2_clockOf_21 rfl ?_
  refine r_getN hX kg_X2_146 (a1.toNat + 5) (zWd_loc (d := a1.toNat) (by omega)) rfl dX2_clockOf_23 ?_
  refine r_aload hX dX2_clockOf_26 rfl ?_
  refine r_getN hX kg_X2_172 (a1.toNat + 5) (zWd_loc (d := a1.toNat) (by omega)) rfl dX2_clockOf_28 ?_
  refine r_aload hX dX2_clockOf_31 rfl ?_
  refine r_getN hX kg_X2_158 (a1.toNat + 5) (zWd_loc (d := a1.toNat) (by omega)) rfl dX2_clockOf_33 ?_
  have hr1 := zrg hS (d := a1.toNat) (by omega)
  refine r_callV hX (z_X2_putClock ad cs S T rest hS a0.toNat (by omega) _ _ _ (by omega) (by omega) (by omega)) kv_X2_187 0 rfl rfl rfl rfl (Nat.le_of_ble_eq_true rfl) ⟨(Nat.le_of_ble_eq_true rfl), (Nat.le_of_ble_eq_true rfl)⟩ ⟨(Nat.le_of_ble_eq_true rfl), (Nat.le_of_ble_eq_true rfl)⟩ dX2_clockOf_36 (fun _ _ z => False.elim z) (fun v9 ws9 h5 => ?_)
  obtain ⟨rfl, hw9⟩ := h5
  subst ws9
  dsimp only [mPush]
  refine r_iret hX hE dX2_clockOf_39 (Nat.le_of_ble_eq_true rfl) (Nat.le_of_ble_eq_true rfl) ⟨by omega, ?_⟩
  exact ⟨rfl, rfl⟩
set_option maxHeartbeats 4000000 in
set_option maxRecDepth 20000 in
theorem z_X2_strike (ad : Nat → Nat) (cs : ClassId × ClassId × ClassId) (S : mS) (T : mT2) (rest : va_W) (hS : sWF S) (a0 : Int) (h0 : rJ a0) (a1 : Int) (h1 : rJ a1)  : mCt (mTy cs) yX2_strike cX2_strike 5 (some .int) ⟨7, 2, 12, 103⟩ [.ref (ad 0), .int (iZ a0), .int (iZ a1)] (mWd ad cs (mKof S T) rest) (fun v ws' => (((0 ≤ a0 ∧ a0 < 4) ∧ (0 ≤ a1 ∧ a1 < 3)) ∧ (0 ≤ (0 : Int))) ∧ v = some (.int (iZ (oLoc S a0.toNat (sse S a0.toNat / 86400 * 86400 + sse S (a1.toNat + 4)) (sna S (a1.toNat + 4)) (sow S (a1.toNat + 4))).1)) ∧ ws' = mWd ad cs (mKof (oLoc S a0.toNat (sse S a0.toNat / 86400 * 86400 + sse S (a1.toNat + 4)) (sna S (a1.toNat + 4)) (sow S (a1.toNat + 4))).2 T) rest) (fun E ws' => ws' = mWd ad cs (mKof S T) rest ∧ ((E = xI ∧ ¬ ((0 ≤ a0 ∧ a0 < 4) ∧ (0 ≤ a1 ∧ a1 < 3))) ∨ (E = xA ∧ ((0 ≤ a0 ∧ a0 < 4) ∧ (0 ≤ a1 ∧ a1 < 3)) ∧ ¬ (0 ≤ (0 : Int))))) := by
  refine mCt.of (by decide +kernel) (Nat.le_of_ble_eq_true rfl) (fun X hX hE => ?_)
  replace hX : mOK X RX2 cX2_strike 5 ⟨7, 2, 12, 103⟩ [] (mTy cs) := hX
  refine r_aload_n hX dX2_strike_0 rfl rfl ?_
  refine r_get hX kf_X2_20 0 rfl rfl dX2_strike_1 ?_
  refine r_iload_n hX dX2_strike_4 rfl rfl ?_
  refine r_callS hX (z_X2_at ad cs _ 3 _ 4 0 rfl (by decide) _ (by omega)) ks_X2_84 rfl rfl (Nat.le_of_ble_eq_true rfl) ⟨(Nat.le_of_ble_eq_true rfl), (Nat.le_of_ble_eq_true rfl)⟩ ⟨(Nat.le_of_ble_eq_true rfl), (Nat.le_of_ble_eq_true rfl)⟩ dX2_strike_5 (fun E ws9 z => r_out hX hE (Nat.le_of_ble_eq_true rfl) (Nat.le_of_ble_eq_true rfl) ⟨z.2.1, Or.inl ⟨z.1, fun q => z.2.2 (by omega)⟩⟩) (fun v9 ws9 h1 => ?_)
  obtain ⟨hi2, rfl, hw9⟩ := h1
  subst ws9
  dsimp only [mPush]
  refine r_astore_n hX dX2_strike_8 rfl (by decide) rfl ?_
  refine r_aload_n hX dX2_strike_9 rfl rfl ?_
  refine r_get hX kf_X2_24 0 rfl rfl dX2_strike_10 ?_
  refine r_iload_n hX dX2_strike_13 rfl rfl ?_
  refine r_callS hX (z_X2_at ad cs _ 4 _ 3 4 rfl (by decide) _ (by omega)) ks_X2_84 rfl rfl (Nat.le_of_ble_eq_true rfl) ⟨(Nat.le_of_ble_eq_true rfl), (Nat.le_of_ble_eq_true rfl)⟩ ⟨(Nat.le_of_ble_eq_true rfl), (Nat.le_of_ble_eq_true rfl)⟩ dX2_strike_14 (fun E ws9 z => r_out hX hE (Nat.le_of_ble_eq_true rfl) (Nat.le_of_ble_eq_true rfl) ⟨z.2.1, Or.inl ⟨z.1, fun q => z.2.2 (by omega)⟩⟩) (fun v9 ws9 h3 => ?_)
  obtain ⟨hi4, rfl, hw9⟩ := h3
  subst ws9
  dsimp only [mPush]
  refine r_astore hX dX2_strike_17 (by decide) rfl ?_
  refine r_aload_n hX dX2_strike_19 rfl rfl ?_
  refine r_aload_n hX dX2_strike_20 rfl rfl ?_
  refine r_aload_n hX dX2_strike_21 rfl rfl ?_
  have hr0 := zrg hS (d := a0.toNat) (by omega)
  have hr1 := zrg hS (d := a1.toNat + 4) (by omega)
  refine r_callV hX (z_X1_beginOfDay _ _ (a0.toNat + 5) _ _ _ _ (zWd_loc (d := a0.toNat) (by omega)) (zrg hS (by omega))) kv_X2_190 (a0.toNat + 5) (zWd_loc (d := a0.toNat) (by omega)) rfl rfl rfl (Nat.le_of_ble_eq_true rfl) ⟨(Nat.le_of_ble_eq_true rfl), (Nat.le_of_ble_eq_true rfl)⟩ ⟨(Nat.le_of_ble_eq_true rfl), (Nat.le_of_ble_eq_true rfl)⟩ dX2_strike_22 (fun _ _ z => False.elim z) (fun v9 ws9 h5 => ?_)
  obtain ⟨rfl, hw9⟩ := h5
  subst ws9
  dsimp only [mPush]
  refine r_aload hX dX2_strike_25 rfl ?_
  refine r_getN hX kg_X2_146 ((a1.toNat + 4) + 5) (zWd_loc (d := (a1.toNat + 4)) (by omega)) rfl dX2_strike_27 ?_
  refine r_laddZ hX dX2_strike_30 ?_
  refine r_aload hX dX2_strike_31 rfl ?_
  refine r_getN hX kg_X2_172 ((a1.toNat + 4) + 5) (zWd_loc (d := (a1.toNat + 4)) (by omega)) rfl dX2_strike_33 ?_
  refine r_aload hX dX2_strike_36 rfl ?_
  refine r_getN hX kg_X2_158 ((a1.toNat + 4) + 5) (zWd_loc (d := (a1.toNat + 4)) (by omega)) rfl dX2_strike_38 ?_
  refine r_callV hX (z_X2_putLocal ad cs S T rest hS a0.toNat (by omega) _ _ _ (by omega) (by omega) (by omega)) kv_X2_132 0 rfl rfl rfl rfl (Nat.le_of_ble_eq_true rfl) ⟨(Nat.le_of_ble_eq_true rfl), (Nat.le_of_ble_eq_true rfl)⟩ ⟨(Nat.le_of_ble_eq_true rfl), (Nat.le_of_ble_eq_true rfl)⟩ dX2_strike_41 (fun _ _ z => False.elim z) (fun v9 ws9 h6 => ?_)
  obtain ⟨rfl, hw9⟩ := h6
  subst ws9
  dsimp only [mPush]
  refine r_iret hX hE dX2_strike_44 (Nat.le_of_ble_eq_true rfl) (Nat.le_of_ble_eq_true rfl) ⟨by omega, ?_⟩
  exact ⟨rfl, rfl⟩
set_option maxHeartbeats 4000000 in
set_option maxRecDepth 20000 in
theorem z_X2_moveClock (ad : Nat → Nat) (cs : ClassId × ClassId × ClassId) (S : mS) (T : mT2) (rest : va_W) (hS : sWF S) (a0 : Int) (h0 : rJ a0) (a1 : Int) (h1 : rJ a1) (a2 : Int) (h2 : rJ a2) (b3 : Bool)  : mCt (mTy cs) yX2_moveClock cX2_moveClock 8 (some .int) ⟨7, 2, 12, 104⟩ [.ref (ad 0), .int (iZ a0), .int (iZ a1), .int (iZ a2), .int (b2i b3)] (mWd ad cs (mKof S T) rest) (fun v ws' => (((0 ≤ a0 ∧ a0 < 3)) ∧ (4 ≤ a1 ∧ a1 ≤ 7)) ∧ v = some (.int (iZ (oClk S a0.toNat (sse S (a0.toNat + 4) + zSn (sna S (a0.toNat + 4)) a1 (zSg a2 b3)) (zNn (sna S (a0.toNat + 4)) a1 (zSg a2 b3)) (sow S (a0.toNat + 4))).1)) ∧ ws' = mWd ad cs (mKof (oClk S a0.toNat (sse S (a0.toNat + 4) + zSn (sna S (a0.toNat + 4)) a1 (zSg a2 b3)) (zNn (sna S (a0.toNat + 4)) a1 (zSg a2 b3)) (sow S (a0.toNat + 4))).2 T) rest) (fun E ws' => ws' = mWd ad cs (mKof S T) rest ∧ ((E = xI ∧ ¬ ((0 ≤ a0 ∧ a0 < 3))) ∨ (E = xA ∧ ((0 ≤ a0 ∧ a0 < 3)) ∧ ¬ (4 ≤ a1 ∧ a1 ≤ 7)))) := by
  refine mCt.of (by decide +kernel) (Nat.le_of_ble_eq_true rfl) (fun X hX hE => ?_)
  replace hX : mOK X RX2 cX2_moveClock 8 ⟨7, 2, 12, 104⟩ [] (mTy cs) := hX
  refine r_aload_n hX dX2_moveClock_0 rfl rfl ?_
  refine r_get hX kf_X2_24 0 rfl rfl dX2_moveClock_1 ?_
  refine r_iload_n hX dX2_moveClock_4 rfl rfl ?_
  refine r_callS hX (z_X2_at ad cs _ 4 _ 3 4 rfl (by decide) _ (by omega)) ks_X2_84 rfl rfl (Nat.le_of_ble_eq_true rfl) ⟨(Nat.le_of_ble_eq_true rfl), (Nat.le_of_ble_eq_true rfl)⟩ ⟨(Nat.le_of_ble_eq_true rfl), (Nat.le_of_ble_eq_true rfl)⟩ dX2_moveClock_5 (fun E ws9 z => r_out hX hE (Nat.le_of_ble_eq_true rfl) (Nat.le_of_ble_eq_true rfl) ⟨z.2.1, Or.inl ⟨z.1, fun q => z.2.2 (by omega)⟩⟩) (fun v9 ws9 h1 => ?_)
  obtain ⟨hi2, rfl, hw9⟩ := h1
  subst ws9
  dsimp only [mPush]
  refine r_astore hX dX2_moveClock_8 (by decide) rfl ?_
  refine r_iload_n hX dX2_moveClock_10 rfl rfl ?_
  refine r_iconstZ hX dX2_moveClock_11 ?_
  refine r_bipushZ hX dX2_moveClock_12 (by decide) ?_
  refine r_callS hX (z_X2_requireWithin _ _ _ _ _ (by omega) (by omega) (by omega)) ks_X2_40 rfl rfl (Nat.le_of_ble_eq_true rfl) ⟨(Nat.le_of_ble_eq_true rfl), (Nat.le_of_ble_eq_true rfl)⟩ ⟨(Nat.le_of_ble_eq_true rfl), (Nat.le_of_ble_eq_true rfl)⟩ dX2_moveClock_14 (fun E ws9 z => r_out hX hE (Nat.le_of_ble_eq_true rfl) (Nat.le_of_ble_eq_true rfl) ⟨z.2.1, Or.inr ⟨z.1, by omega, fun q => z.2.2 (by omega)⟩⟩) (fun v9 ws9 h3 => ?_)
  obtain ⟨hi4, rfl, hw9⟩ := h3
  subst ws9
  dsimp only [mPush]
  refine r_iload_n hX dX2_moveClock_17 rfl rfl ?_
  refine r_iload hX dX2_moveClock_18 rfl ?_
  have hr0 := zrg hS (d := a0.toNat + 4) (by omega)
  refine r_callS hX (z_X2_signed _ _ _ _ (by omega)) ks_X2_80 rfl rfl (Nat.le_of_ble_eq_true rfl) ⟨(Nat.le_of_ble_eq_true rfl), (Nat.le_of_ble_eq_true rfl)⟩ ⟨(Nat.le_of_ble_eq_true rfl), (Nat.le_of_ble_eq_true rfl)⟩ dX2_moveClock_20 (fun _ _ z => False.elim z) (fun v9 ws9 h5 => ?_)
  obtain ⟨rfl, hw9⟩ := h5
  subst ws9
  dsimp only [mPush]
  have hsg5 := zSg_b (a := a2) (b := b3) (by omega)
  refine r_lstore hX dX2_moveClock_23 (by decide) rfl ?_
  refine r_aload_n hX dX2_moveClock_25 rfl rfl ?_
  refine r_aload hX dX2_moveClock_26 rfl ?_
  refine r_aload hX dX2_moveClock_28 rfl ?_
  refine r_getN hX kg_X2_146 ((a0.toNat + 4) + 5) (zWd_loc (d := (a0.toNat + 4)) (by omega)) rfl dX2_moveClock_30 ?_
  refine r_aload hX dX2_moveClock_33 rfl ?_
  refine r_iload_n hX dX2_moveClock_35 rfl rfl ?_
  refine r_lload hX dX2_moveClock_36 rfl ?_
  refine r_callS hX (z_X2_secondsOn _ _ ((a0.toNat + 4) + 5) _ _ _ _ (zWd_loc (d := (a0.toNat + 4)) (by omega)) (zrg hS (by omega)) _ (by omega) _ (by omega)) ks_X2_150 rfl rfl (Nat.le_of_ble_eq_true rfl) ⟨(Nat.le_of_ble_eq_true rfl), (Nat.le_of_ble_eq_true rfl)⟩ ⟨(Nat.le_of_ble_eq_true rfl), (Nat.le_of_ble_eq_true rfl)⟩ dX2_moveClock_38 (fun _ _ z => False.elim z) (fun v9 ws9 h6 => ?_)
  obtain ⟨rfl, hw9⟩ := h6
  subst ws9
  dsimp only [mPush]
  have hsn6 := zSn_b (n := (sna S (a0.toNat + 4))) (u := a1) (b := (zSg a2 b3)) (by omega) (by omega)
  refine r_laddZ hX dX2_moveClock_41 ?_
  refine r_aload hX dX2_moveClock_42 rfl ?_
  refine r_iload_n hX dX2_moveClock_44 rfl rfl ?_
  refine r_lload hX dX2_moveClock_45 rfl ?_
  refine r_callS hX (z_X2_nanoOn _ _ ((a0.toNat + 4) + 5) _ _ _ _ (zWd_loc (d := (a0.toNat + 4)) (by omega)) (zrg hS (by omega)) _ (by omega) _ (by omega)) ks_X2_154 rfl rfl (Nat.le_of_ble_eq_true rfl) ⟨(Nat.le_of_ble_eq_true rfl), (Nat.le_of_ble_eq_true rfl)⟩ ⟨(Nat.le_of_ble_eq_true rfl), (Nat.le_of_ble_eq_true rfl)⟩ dX2_moveClock_47 (fun _ _ z => False.elim z) (fun v9 ws9 h7 => ?_)
  obtain ⟨rfl, hw9⟩ := h7
  subst ws9
  dsimp only [mPush]
  have hnn7 := zNn_b (n := (sna S (a0.toNat + 4))) (u := a1) (b := (zSg a2 b3)) (by omega)
  refine r_aload hX dX2_moveClock_50 rfl ?_
  refine r_getN hX kg_X2_158 ((a0.toNat + 4) + 5) (zWd_loc (d := (a0.toNat + 4)) (by omega)) rfl dX2_moveClock_52 ?_
  refine r_callV hX (z_X2_putClock ad cs S T rest hS a0.toNat (by omega) _ _ _ (by omega) (by omega) (by omega)) kv_X2_187 0 rfl rfl rfl rfl (Nat.le_of_ble_eq_true rfl) ⟨(Nat.le_of_ble_eq_true rfl), (Nat.le_of_ble_eq_true rfl)⟩ ⟨(Nat.le_of_ble_eq_true rfl), (Nat.le_of_ble_eq_true rfl)⟩ dX2_moveClock_55 (fun _ _ z => False.elim z) (fun v9 ws9 h8 => ?_)
  obtain ⟨rfl, hw9⟩ := h8
  subst ws9
  dsimp only [mPush]
  refine r_iret hX hE dX2_moveClock_58 (Nat.le_of_ble_eq_true rfl) (Nat.le_of_ble_eq_true rfl) ⟨by omega, ?_⟩
  exact ⟨rfl, rfl⟩
set_option maxHeartbeats 4000000 in
set_option maxRecDepth 20000 in
theorem z_X2_anewClock (ad : Nat → Nat) (cs : ClassId × ClassId × ClassId) (S : mS) (T : mT2) (rest : va_W) (hS : sWF S) (a0 : Int) (h0 : rJ a0) (a1 : Int) (h1 : rJ a1) (b2 : Bool)  : mCt (mTy cs) yX2_anewClock cX2_anewClock 8 (some .int) ⟨8, 2, 12, 124⟩ [.ref (ad 0), .int (iZ a0), .int (iZ a1), .int (b2i b2)] (mWd ad cs (mKof S T) rest) (fun v ws' => (((0 ≤ a0 ∧ a0 < 3) ∧ (0 ≤ a1 ∧ a1 < 4)) ∧ (0 ≤ (0 : Int))) ∧ v = some (.int (iZ (oClk S a0.toNat (cond b2 (sse S (a0.toNat + 4)) (sse S (a0.toNat + 4) - sow S (a0.toNat + 4) + sof S a1.toNat)) (sna S (a0.toNat + 4)) (sof S a1.toNat)).1)) ∧ ws' = mWd ad cs (mKof (oClk S a0.toNat (cond b2 (sse S (a0.toNat + 4)) (sse S (a0.toNat + 4) - sow S (a0.toNat + 4) + sof S a1.toNat)) (sna S (a0.toNat + 4)) (sof S a1.toNat)).2 T) rest) (fun E ws' => ws' = mWd ad cs (mKof S T) rest ∧ ((E = xI ∧ ¬ ((0 ≤ a0 ∧ a0 < 3) ∧ (0 ≤ a1 ∧ a1 < 4))) ∨ (E = xA ∧ ((0 ≤ a0 ∧ a0 < 3) ∧ (0 ≤ a1 ∧ a1 < 4)) ∧ ¬ (0 ≤ (0 : Int))))) := by
  refine mCt.of (by decide +kernel) (Nat.le_of_ble_eq_true rfl) (fun X hX hE => ?_)
  replace hX : mOK X RX2 cX2_anewClock 8 ⟨8, 2, 12, 124⟩ [] (mTy cs) := hX
  refine r_aload_n hX dX2_anewClock_0 rfl rfl ?_
  refine r_get hX kf_X2_24 0 rfl rfl dX2_anewClock_1 ?_
  refine r_iload_n hX dX2_anewClock_4 rfl rfl ?_
  refine r_callS hX (z_X2_at ad cs _ 4 _ 3 4 rfl (by decide) _ (by omega)) ks_X2_84 rfl rfl (Nat.le_of_ble_eq_true rfl) ⟨(Nat.le_of_ble_eq_true rfl), (Nat.le_of_ble_eq_true rfl)⟩ ⟨(Nat.le_of_ble_eq_true rfl), (Nat.le_of_ble_eq_true rfl)⟩ dX2_anewClock_5 (fun E ws9 z => r_out hX hE (Nat.le_of_ble_eq_true rfl) (Nat.le_of_ble_eq_true rfl) ⟨z.2.1, Or.inl ⟨z.1, fun q => z.2.2 (by omega)⟩⟩) (fun v9 ws9 h1 => ?_)
  obtain ⟨hi2, rfl, hw9⟩ := h1
  subst ws9
  dsimp only [mPush]
  refine r_astore hX dX2_anewClock_8 (by decide) rfl ?_
  refine r_aload_n hX dX2_anewClock_10 rfl rfl ?_
  refine r_iload_n hX dX2_anewClock_11 rfl rfl ?_
  have hr0 := zrg hS (d := a0.toNat + 4) (by omega)
  refine r_callV hX (z_X2_seconds ad cs S T rest hS _ (by omega)) kv_X2_64 0 rfl rfl rfl rfl (Nat.le_of_ble_eq_true rfl) ⟨(Nat.le_of_ble_eq_true rfl), (Nat.le_of_ble_eq_true rfl)⟩ ⟨(Nat.le_of_ble_eq_true rfl), (Nat.le_of_ble_eq_true rfl)⟩ dX2_anewClock_12 (fun E ws9 z => r_out hX hE (Nat.le_of_ble_eq_true rfl) (Nat.le_of_ble_eq_true rfl) ⟨z.2.1, Or.inl ⟨z.1, fun q => z.2.2 (by omega)⟩⟩) (fun v9 ws9 h3 => ?_)
  obtain ⟨hi4, rfl, hw9⟩ := h3
  subst ws9
  dsimp only [mPush]
  have hof4 := hS.1 a1.toNat (by omega)
  refine r_istore hX dX2_anewClock_15 (by decide) rfl ?_
  refine r_iload_n hX dX2_anewClock_17 rfl rfl ?_
  refine r_if_eqB (tgt := 29) hX dX2_anewClock_18 (by decide) (fun c5 => ?_) (fun c5 => ?_)
  · have c5 := id c5
    refine r_aload hX dX2_anewClock_29 rfl ?_
    refine r_callV hX (z_X1_momentSecond _ _ ((a0.toNat + 4) + 5) _ _ _ _ (zWd_loc (d := (a0.toNat + 4)) (by omega)) (zrg hS (by omega))) kv_X2_169 ((a0.toNat + 4) + 5) (zWd_loc (d := (a0.toNat + 4)) (by omega)) rfl rfl rfl (Nat.le_of_ble_eq_true rfl) ⟨(Nat.le_of_ble_eq_true rfl), (Nat.le_of_ble_eq_true rfl)⟩ ⟨(Nat.le_of_ble_eq_true rfl), (Nat.le_of_ble_eq_true rfl)⟩ dX2_anewClock_31 (fun _ _ z => False.elim z) (fun v9 ws9 h6 => ?_)
    obtain ⟨rfl, hw9⟩ := h6
    subst ws9
    dsimp only [mPush]
    refine r_iload hX dX2_anewClock_34 rfl ?_
    refine r_i2lZ hX dX2_anewClock_36 (by omega) ?_
    refine r_laddZ hX dX2_anewClock_37 ?_
    refine r_lstore hX dX2_anewClock_38 (by decide) rfl ?_
    refine r_aload_n hX dX2_anewClock_40 rfl rfl ?_
    refine r_aload hX dX2_anewClock_41 rfl ?_
    refine r_lload hX dX2_anewClock_43 rfl ?_
    refine r_aload hX dX2_anewClock_45 rfl ?_
    refine r_getN hX kg_X2_172 ((a0.toNat + 4) + 5) (zWd_loc (d := (a0.toNat + 4)) (by omega)) rfl dX2_anewClock_47 ?_
    refine r_iload hX dX2_anewClock_50 rfl ?_
    refine r_callV hX (z_X2_putClock ad cs S T rest hS a0.toNat (by omega) _ _ _ (by omega) (by omega) (by omega)) kv_X2_187 0 rfl rfl rfl rfl (Nat.le_of_ble_eq_true rfl) ⟨(Nat.le_of_ble_eq_true rfl), (Nat.le_of_ble_eq_true rfl)⟩ ⟨(Nat.le_of_ble_eq_true rfl), (Nat.le_of_ble_eq_true rfl)⟩ dX2_anewClock_52 (fun _ _ z => False.elim z) (fun v9 ws9 h7 => ?_)
    obtain ⟨rfl, hw9⟩ := h7
    subst ws9
    dsimp only [mPush]
    refine r_iret hX hE dX2_anewClock_55 (Nat.le_of_ble_eq_true rfl) (Nat.le_of_ble_eq_true rfl) ⟨by omega, ?_⟩
    first | (rw [show b2 = true by assumption]; exact ⟨rfl, rfl⟩) | (rw [show b2 = false by assumption]; exact ⟨rfl, rfl⟩)
  · have c5 := id c5
    refine r_aload hX dX2_anewClock_21 rfl ?_
    refine r_getN hX kg_X2_146 ((a0.toNat + 4) + 5) (zWd_loc (d := (a0.toNat + 4)) (by omega)) rfl dX2_anewClock_23 ?_
    refine r_goto (tgt := 38) hX dX2_anewClock_26 (by decide) ?_
    refine r_lstore hX dX2_anewClock_38 (by decide) rfl ?_
    refine r_aload_n hX dX2_anewClock_40 rfl rfl ?_
    refine r_aload hX dX2_anewClock_41 rfl ?_
    refine r_lload hX dX2_anewClock_43 rfl ?_
    refine r_aload hX dX2_anewClock_45 rfl ?_
    refine r_getN hX kg_X2_172 ((a0.toNat + 4) + 5) (zWd_loc (d := (a0.toNat + 4)) (by omega)) rfl dX2_anewClock_47 ?_
    refine r_iload hX dX2_anewClock_50 rfl ?_
    refine r_callV hX (z_X2_putClock ad cs S T rest hS a0.toNat (by omega) _ _ _ (by omega) (by omega) (by omega)) kv_X2_187 0 rfl rfl rfl rfl (Nat.le_of_ble_eq_true rfl) ⟨(Nat.le_of_ble_eq_true rfl), (Nat.le_of_ble_eq_true rfl)⟩ ⟨(Nat.le_of_ble_eq_true rfl), (Nat.le_of_ble_eq_true rfl)⟩ dX2_anewClock_52 (fun _ _ z => False.elim z) (fun v9 ws9 h8 => ?_)
    obtain ⟨rfl, hw9⟩ := h8
    subst ws9
    dsimp only [mPush]
    refine r_iret hX hE dX2_anewClock_55 (Nat.le_of_ble_eq_true rfl) (Nat.le_of_ble_eq_true rfl) ⟨by omega, ?_⟩
    first | (rw [show b2 = true by assumption]; exact ⟨rfl, rfl⟩) | (rw [show b2 = false by assumption]; exact ⟨rfl, rfl⟩)
set_option maxHeartbeats 4000000 in
set_option maxRecDepth 20000 in
theorem z_X2_copyClock (ad : Nat → Nat) (cs : ClassId × ClassId × ClassId) (S : mS) (T : mT2) (rest : va_W) (hS : sWF S) (a0 : Int) (h0 : rJ a0) (a1 : Int) (h1 : rJ a1)  : mCt (mTy cs) yX2_copyClock cX2_copyClock 5 (some .int) ⟨7, 2, 12, 103⟩ [.ref (ad 0), .int (iZ a0), .int (iZ a1)] (mWd ad cs (mKof S T) rest) (fun v ws' => (((0 ≤ a0 ∧ a0 < 3) ∧ (0 ≤ a1 ∧ a1 < 3)) ∧ (0 ≤ (0 : Int))) ∧ v = some (.int (iZ (oClk S a0.toNat (sse S (a1.toNat + 4)) (sna S (a1.toNat + 4)) (sow S (a1.toNat + 4))).1)) ∧ ws' = mWd ad cs (mKof (oClk S a0.toNat (sse S (a1.toNat + 4)) (sna S (a1.toNat + 4)) (sow S (a1.toNat + 4))).2 T) rest) (fun E ws' => ws' = mWd ad cs (mKof S T) rest ∧ ((E = xI ∧ ¬ ((0 ≤ a0 ∧ a0 < 3) ∧ (0 ≤ a1 ∧ a1 < 3))) ∨ (E = xA ∧ ((0 ≤ a0 ∧ a0 < 3) ∧ (0 ≤ a1 ∧ a1 < 3)) ∧ ¬ (0 ≤ (0 : Int))))) := by
  refine mCt.of (by decide +kernel) (Nat.le_of_ble_eq_true rfl) (fun X hX hE => ?_)
  replace hX : mOK X RX2 cX2_copyClock 5 ⟨7, 2, 12, 103⟩ [] (mTy cs) := hX
  refine r_aload_n hX dX2_copyClock_0 rfl rfl ?_
  refine r_get hX kf_X2_24 0 rfl rfl dX2_copyClock_1 ?_
  refine r_iload_n hX dX2_copyClock_4 rfl rfl ?_
  refine r_callS hX (z_X2_at ad cs _ 4 _ 3 4 rfl (by decide) _ (by omega)) ks_X2_84 rfl rfl (Nat.le_of_ble_eq_true rfl) ⟨(Nat.le_of_ble_eq_true rfl), (Nat.le_of_ble_eq_true rfl)⟩ ⟨(Nat.le_of_ble_eq_true rfl), (Nat.le_of_ble_eq_true rfl)⟩ dX2_copyClock_5 (fun E ws9 z => r_out hX hE (Nat.le_of_ble_eq_true rfl) (Nat.le_of_ble_eq_true rfl) ⟨z.2.1, Or.inl ⟨z.1, fun q => z.2.2 (by omega)⟩⟩) (fun v9 ws9 h1 => ?_)
  obtain ⟨hi2, rfl, hw9⟩ := h1
  subst ws9
  dsimp only [mPush]
  refine r_astore_n hX dX2_copyClock_8 rfl (by decide) rfl ?_
  refine r_aload_n hX dX2_copyClock_9 rfl rfl ?_
  refine r_get hX kf_X2_24 0 rfl rfl dX2_copyClock_10 ?_
  refine r_iload_n hX dX2_copyClock_13 rfl rfl ?_
  refine r_callS hX (z_X2_at ad cs _ 4 _ 3 4 rfl (by decide) _ (by omega)) ks_X2_84 rfl rfl (Nat.le_of_ble_eq_true rfl) ⟨(Nat.le_of_ble_eq_true rfl), (Nat.le_of_ble_eq_true rfl)⟩ ⟨(Nat.le_of_ble_eq_true rfl), (Nat.le_of_ble_eq_true rfl)⟩ dX2_copyClock_14 (fun E ws9 z => r_out hX hE (Nat.le_of_ble_eq_true rfl) (Nat.le_of_ble_eq_true rfl) ⟨z.2.1, Or.inl ⟨z.1, fun q => z.2.2 (by omega)⟩⟩) (fun v9 ws9 h3 => ?_)
  obtain ⟨hi4, rfl, hw9⟩ := h3
  subst ws9
  dsimp only [mPush]
  refine r_astore hX dX2_copyClock_17 (by decide) rfl ?_
  refine r_aload_n hX dX2_copyClock_19 rfl rfl ?_
  refine r_aload_n hX dX2_copyClock_20 rfl rfl ?_
  refine r_aload hX dX2_copyClock_21 rfl ?_
  refine r_getN hX kg_X2_146 ((a1.toNat + 4) + 5) (zWd_loc (d := (a1.toNat + 4)) (by omega)) rfl dX2_copyClock_23 ?_
  refine r_aload hX dX2_copyClock_26 rfl ?_
  refine r_getN hX kg_X2_172 ((a1.toNat + 4) + 5) (zWd_loc (d := (a1.toNat + 4)) (by omega)) rfl dX2_copyClock_28 ?_
  refine r_aload hX dX2_copyClock_31 rfl ?_
  refine r_getN hX kg_X2_158 ((a1.toNat + 4) + 5) (zWd_loc (d := (a1.toNat + 4)) (by omega)) rfl dX2_copyClock_33 ?_
  have hr1 := zrg hS (d := a1.toNat + 4) (by omega)
  refine r_callV hX (z_X2_putClock ad cs S T rest hS a0.toNat (by omega) _ _ _ (by omega) (by omega) (by omega)) kv_X2_187 0 rfl rfl rfl rfl (Nat.le_of_ble_eq_true rfl) ⟨(Nat.le_of_ble_eq_true rfl), (Nat.le_of_ble_eq_true rfl)⟩ ⟨(Nat.le_of_ble_eq_true rfl), (Nat.le_of_ble_eq_true rfl)⟩ dX2_copyClock_36 (fun _ _ z => False.elim z) (fun v9 ws9 h5 => ?_)
  obtain ⟨rfl, hw9⟩ := h5
  subst ws9
  dsimp only [mPush]
  refine r_iret hX hE dX2_copyClock_39 (Nat.le_of_ble_eq_true rfl) (Nat.le_of_ble_eq_true rfl) ⟨by omega, ?_⟩
  exact ⟨rfl, rfl⟩
set_option maxHeartbeats 4000000 in
set_option maxRecDepth 20000 in
theorem z_X2_ofClock (ad : Nat → Nat) (cs : ClassId × ClassId × ClassId) (S : mS) (T : mT2) (rest : va_W) (hS : sWF S) (a0 : Int) (h0 : rJ a0) (a1 : Int) (h1 : rJ a1)  : mCt (mTy cs) yX2_ofClock cX2_ofClock 4 (some .int) ⟨7, 2, 12, 104⟩ [.ref (ad 0), .int (iZ a0), .int (iZ a1)] (mWd ad cs (mKof S T) rest) (fun v ws' => (((0 ≤ a0 ∧ a0 < 3)) ∧ (0 ≤ a1 ∧ a1 ≤ 5)) ∧ v = some (.int (iZ (zCP (sse S (a0.toNat + 4)) (sna S (a0.toNat + 4)) (sow S (a0.toNat + 4)) a1))) ∧ ws' = mWd ad cs (mKof S T) rest) (fun E ws' => ws' = mWd ad cs (mKof S T) rest ∧ ((E = xI ∧ ¬ ((0 ≤ a0 ∧ a0 < 3))) ∨ (E = xA ∧ ((0 ≤ a0 ∧ a0 < 3)) ∧ ¬ (0 ≤ a1 ∧ a1 ≤ 5)))) := by
  refine mCt.of (by decide +kernel) (Nat.le_of_ble_eq_true rfl) (fun X hX hE => ?_)
  replace hX : mOK X RX2 cX2_ofClock 4 ⟨7, 2, 12, 104⟩ [] (mTy cs) := hX
  refine r_aload_n hX dX2_ofClock_0 rfl rfl ?_
  refine r_get hX kf_X2_24 0 rfl rfl dX2_ofClock_1 ?_
  refine r_iload_n hX dX2_ofClock_4 rfl rfl ?_
  refine r_callS hX (z_X2_at ad cs _ 4 _ 3 4 rfl (by decide) _ (by omega)) ks_X2_84 rfl rfl (Nat.le_of_ble_eq_true rfl) ⟨(Nat.le_of_ble_eq_true rfl), (Nat.le_of_ble_eq_true rfl)⟩ ⟨(Nat.le_of_ble_eq_true rfl), (Nat.le_of_ble_eq_true rfl)⟩ dX2_ofClock_5 (fun E ws9 z => r_out hX hE (Nat.le_of_ble_eq_true rfl) (Nat.le_of_ble_eq_true rfl) ⟨z.2.1, Or.inl ⟨z.1, fun q => z.2.2 (by omega)⟩⟩) (fun v9 ws9 h1 => ?_)
  obtain ⟨hi2, rfl, hw9⟩ := h1
  subst ws9
  dsimp only [mPush]
  refine r_astore_n hX dX2_ofClock_8 rfl (by decide) rfl ?_
  refine r_iload_n hX dX2_ofClock_9 rfl rfl ?_
  refine r_iconstZ hX dX2_ofClock_10 ?_
  refine r_iconstZ hX dX2_ofClock_11 ?_
  refine r_callS hX (z_X2_requireWithin _ _ _ _ _ (by omega) (by omega) (by omega)) ks_X2_40 rfl rfl (Nat.le_of_ble_eq_true rfl) ⟨(Nat.le_of_ble_eq_true rfl), (Nat.le_of_ble_eq_true rfl)⟩ ⟨(Nat.le_of_ble_eq_true rfl), (Nat.le_of_ble_eq_true rfl)⟩ dX2_ofClock_12 (fun E ws9 z => r_out hX hE (Nat.le_of_ble_eq_true rfl) (Nat.le_of_ble_eq_true rfl) ⟨z.2.1, Or.inr ⟨z.1, by omega, fun q => z.2.2 (by omega)⟩⟩) (fun v9 ws9 h3 => ?_)
  obtain ⟨hi4, rfl, hw9⟩ := h3
  subst ws9
  dsimp only [mPush]
  refine r_aload_n hX dX2_ofClock_15 rfl rfl ?_
  refine r_iload_n hX dX2_ofClock_16 rfl rfl ?_
  refine r_callS hX (z_X2_clockPart _ _ ((a0.toNat + 4) + 5) _ _ _ _ (zWd_loc (d := (a0.toNat + 4)) (by omega)) (zrg hS (by omega)) _ (by omega)) ks_X2_193 rfl rfl (Nat.le_of_ble_eq_true rfl) ⟨(Nat.le_of_ble_eq_true rfl), (Nat.le_of_ble_eq_true rfl)⟩ ⟨(Nat.le_of_ble_eq_true rfl), (Nat.le_of_ble_eq_true rfl)⟩ dX2_ofClock_17 (fun _ _ z => False.elim z) (fun v9 ws9 h5 => ?_)
  obtain ⟨rfl, hw9⟩ := h5
  subst ws9
  dsimp only [mPush]
  refine r_iret hX hE dX2_ofClock_20 (Nat.le_of_ble_eq_true rfl) (Nat.le_of_ble_eq_true rfl) ⟨by omega, zi ?_, rfl⟩
  rfl
set_option maxHeartbeats 4000000 in
set_option maxRecDepth 20000 in
theorem z_X2_orderClock (ad : Nat → Nat) (cs : ClassId × ClassId × ClassId) (S : mS) (T : mT2) (rest : va_W) (hS : sWF S) (a0 : Int) (h0 : rJ a0) (a1 : Int) (h1 : rJ a1)  : mCt (mTy cs) yX2_orderClock cX2_orderClock 3 (some .int) ⟨7, 2, 12, 103⟩ [.ref (ad 0), .int (iZ a0), .int (iZ a1)] (mWd ad cs (mKof S T) rest) (fun v ws' => (((0 ≤ a0 ∧ a0 < 3) ∧ (0 ≤ a1 ∧ a1 < 3)) ∧ (0 ≤ (0 : Int))) ∧ v = some (.int (iZ (zTo (sse S (a0.toNat + 4)) (sna S (a0.toNat + 4)) (sow S (a0.toNat + 4)) (sse S (a1.toNat + 4)) (sna S (a1.toNat + 4)) (sow S (a1.toNat + 4))))) ∧ ws' = mWd ad cs (mKof S T) rest) (fun E ws' => ws' = mWd ad cs (mKof S T) rest ∧ ((E = xI ∧ ¬ ((0 ≤ a0 ∧ a0 < 3) ∧ (0 ≤ a1 ∧ a1 < 3))) ∨ (E = xA ∧ ((0 ≤ a0 ∧ a0 < 3) ∧ (0 ≤ a1 ∧ a1 < 3)) ∧ ¬ (0 ≤ (0 : Int))))) := by
  refine mCt.of (by decide +kernel) (Nat.le_of_ble_eq_true rfl) (fun X hX hE => ?_)
  replace hX : mOK X RX2 cX2_orderClock 3 ⟨7, 2, 12, 103⟩ [] (mTy cs) := hX
  refine r_aload_n hX dX2_orderClock_0 rfl rfl ?_
  refine r_get hX kf_X2_24 0 rfl rfl dX2_orderClock_1 ?_
  refine r_iload_n hX dX2_orderClock_4 rfl rfl ?_
  refine r_callS hX (z_X2_at ad cs _ 4 _ 3 4 rfl (by decide) _ (by omega)) ks_X2_84 rfl rfl (Nat.le_of_ble_eq_true rfl) ⟨(Nat.le_of_ble_eq_true rfl), (Nat.le_of_ble_eq_true rfl)⟩ ⟨(Nat.le_of_ble_eq_true rfl), (Nat.le_of_ble_eq_true rfl)⟩ dX2_orderClock_5 (fun E ws9 z => r_out hX hE (Nat.le_of_ble_eq_true rfl) (Nat.le_of_ble_eq_true rfl) ⟨z.2.1, Or.inl ⟨z.1, fun q => z.2.2 (by omega)⟩⟩) (fun v9 ws9 h1 => ?_)
  obtain ⟨hi2, rfl, hw9⟩ := h1
  subst ws9
  dsimp only [mPush]
  refine r_aload_n hX dX2_orderClock_8 rfl rfl ?_
  refine r_get hX kf_X2_24 0 rfl rfl dX2_orderClock_9 ?_
  refine r_iload_n hX dX2_orderClock_12 rfl rfl ?_
  refine r_callS hX (z_X2_at ad cs _ 4 _ 3 4 rfl (by decide) _ (by omega)) ks_X2_84 rfl rfl (Nat.le_of_ble_eq_true rfl) ⟨(Nat.le_of_ble_eq_true rfl), (Nat.le_of_ble_eq_true rfl)⟩ ⟨(Nat.le_of_ble_eq_true rfl), (Nat.le_of_ble_eq_true rfl)⟩ dX2_orderClock_13 (fun E ws9 z => r_out hX hE (Nat.le_of_ble_eq_true rfl) (Nat.le_of_ble_eq_true rfl) ⟨z.2.1, Or.inl ⟨z.1, fun q => z.2.2 (by omega)⟩⟩) (fun v9 ws9 h3 => ?_)
  obtain ⟨hi4, rfl, hw9⟩ := h3
  subst ws9
  dsimp only [mPush]
  refine r_callV hX (z_X1_orderTo _ _ ((a0.toNat + 4) + 5) _ _ _ _ (zWd_loc (d := (a0.toNat + 4)) (by omega)) (zrg hS (by omega)) ((a1.toNat + 4) + 5) _ _ _ _ (zWd_loc (d := (a1.toNat + 4)) (by omega)) (zrg hS (by omega))) kv_X2_179 ((a0.toNat + 4) + 5) (zWd_loc (d := (a0.toNat + 4)) (by omega)) rfl rfl rfl (Nat.le_of_ble_eq_true rfl) ⟨(Nat.le_of_ble_eq_true rfl), (Nat.le_of_ble_eq_true rfl)⟩ ⟨(Nat.le_of_ble_eq_true rfl), (Nat.le_of_ble_eq_true rfl)⟩ dX2_orderClock_16 (fun _ _ z => False.elim z) (fun v9 ws9 h5 => ?_)
  obtain ⟨rfl, hw9⟩ := h5
  subst ws9
  dsimp only [mPush]
  have hb5 := zTo_b (sse S (a0.toNat + 4)) (sna S (a0.toNat + 4)) (sow S (a0.toNat + 4)) (sse S (a1.toNat + 4)) (sna S (a1.toNat + 4)) (sow S (a1.toNat + 4))
  refine r_iret hX hE dX2_orderClock_19 (Nat.le_of_ble_eq_true rfl) (Nat.le_of_ble_eq_true rfl) ⟨by omega, zi ?_, rfl⟩
  rfl
set_option maxHeartbeats 4000000 in
set_option maxRecDepth 20000 in
theorem z_X2_isClock (ad : Nat → Nat) (cs : ClassId × ClassId × ClassId) (S : mS) (T : mT2) (rest : va_W) (hS : sWF S) (a0 : Int) (h0 : rJ a0) (a1 : Int) (h1 : rJ a1) (a2 : Int) (h2 : rJ a2)  : mCt (mTy cs) yX2_isClock cX2_isClock 6 (some .boolean) ⟨7, 3, 18, 104⟩ [.ref (ad 0), .int (iZ a0), .int (iZ a1), .int (iZ a2)] (mWd ad cs (mKof S T) rest) (fun v ws' => (((0 ≤ a0 ∧ a0 < 3) ∧ (0 ≤ a1 ∧ a1 < 3)) ∧ (0 ≤ a2 ∧ a2 ≤ 3)) ∧ v = some (.int (b2i (zSo (sse S (a0.toNat + 4)) (sna S (a0.toNat + 4)) (sow S (a0.toNat + 4)) (sse S (a1.toNat + 4)) (sna S (a1.toNat + 4)) (sow S (a1.toNat + 4)) a2))) ∧ ws' = mWd ad cs (mKof S T) rest) (fun E ws' => ws' = mWd ad cs (mKof S T) rest ∧ ((E = xI ∧ ¬ ((0 ≤ a0 ∧ a0 < 3) ∧ (0 ≤ a1 ∧ a1 < 3))) ∨ (E = xA ∧ ((0 ≤ a0 ∧ a0 < 3) ∧ (0 ≤ a1 ∧ a1 < 3)) ∧ ¬ (0 ≤ a2 ∧ a2 ≤ 3)))) := by
  refine mCt.of (by decide +kernel) (Nat.le_of_ble_eq_true rfl) (fun X hX hE => ?_)
  replace hX : mOK X RX2 cX2_isClock 6 ⟨7, 3, 18, 104⟩ [] (mTy cs) := hX
  refine r_aload_n hX dX2_isClock_0 rfl rfl ?_
  refine r_get hX kf_X2_24 0 rfl rfl dX2_isClock_1 ?_
  refine r_iload_n hX dX2_isClock_4 rfl rfl ?_
  refine r_callS hX (z_X2_at ad cs _ 4 _ 3 4 rfl (by decide) _ (by omega)) ks_X2_84 rfl rfl (Nat.le_of_ble_eq_true rfl) ⟨(Nat.le_of_ble_eq_true rfl), (Nat.le_of_ble_eq_true rfl)⟩ ⟨(Nat.le_of_ble_eq_true rfl), (Nat.le_of_ble_eq_true rfl)⟩ dX2_isClock_5 (fun E ws9 z => r_out hX hE (Nat.le_of_ble_eq_true rfl) (Nat.le_of_ble_eq_true rfl) ⟨z.2.1, Or.inl ⟨z.1, fun q => z.2.2 (by omega)⟩⟩) (fun v9 ws9 h1 => ?_)
  obtain ⟨hi2, rfl, hw9⟩ := h1
  subst ws9
  dsimp only [mPush]
  refine r_astore hX dX2_isClock_8 (by decide) rfl ?_
  refine r_aload_n hX dX2_isClock_10 rfl rfl ?_
  refine r_get hX kf_X2_24 0 rfl rfl dX2_isClock_11 ?_
  refine r_iload_n hX dX2_isClock_14 rfl rfl ?_
  refine r_callS hX (z_X2_at ad cs _ 4 _ 3 4 rfl (by decide) _ (by omega)) ks_X2_84 rfl rfl (Nat.le_of_ble_eq_true rfl) ⟨(Nat.le_of_ble_eq_true rfl), (Nat.le_of_ble_eq_true rfl)⟩ ⟨(Nat.le_of_ble_eq_true rfl), (Nat.le_of_ble_eq_true rfl)⟩ dX2_isClock_15 (fun E ws9 z => r_out hX hE (Nat.le_of_ble_eq_true rfl) (Nat.le_of_ble_eq_true rfl) ⟨z.2.1, Or.inl ⟨z.1, fun q => z.2.2 (by omega)⟩⟩) (fun v9 ws9 h3 => ?_)
  obtain ⟨hi4, rfl, hw9⟩ := h3
  subst ws9
  dsimp only [mPush]
  refine r_astore hX dX2_isClock_18 (by decide) rfl ?_
  refine r_iload_n hX dX2_isClock_20 rfl rfl ?_
  refine r_iconstZ hX dX2_isClock_21 ?_
  refine r_iconstZ hX dX2_isClock_22 ?_
  refine r_callS hX (z_X2_requireWithin _ _ _ _ _ (by omega) (by omega) (by omega)) ks_X2_40 rfl rfl (Nat.le_of_ble_eq_true rfl) ⟨(Nat.le_of_ble_eq_true rfl), (Nat.le_of_ble_eq_true rfl)⟩ ⟨(Nat.le_of_ble_eq_true rfl), (Nat.le_of_ble_eq_true rfl)⟩ dX2_isClock_23 (fun E ws9 z => r_out hX hE (Nat.le_of_ble_eq_true rfl) (Nat.le_of_ble_eq_true rfl) ⟨z.2.1, Or.inr ⟨z.1, by omega, fun q => z.2.2 (by omega)⟩⟩) (fun v9 ws9 h5 => ?_)
  obtain ⟨hi6, rfl, hw9⟩ := h5
  subst ws9
  dsimp only [mPush]
  refine r_aload hX dX2_isClock_26 rfl ?_
  refine r_aload hX dX2_isClock_28 rfl ?_
  refine r_iload_n hX dX2_isClock_30 rfl rfl ?_
  refine r_callS hX (z_X2_isSo _ _ ((a0.toNat + 4) + 5) _ _ _ _ (zWd_loc (d := (a0.toNat + 4)) (by omega)) (zrg hS (by omega)) ((a1.toNat + 4) + 5) _ _ _ _ (zWd_loc (d := (a1.toNat + 4)) (by omega)) (zrg hS (by omega)) _ (by omega)) ks_X2_183 rfl rfl (Nat.le_of_ble_eq_true rfl) ⟨(Nat.le_of_ble_eq_true rfl), (Nat.le_of_ble_eq_true rfl)⟩ ⟨(Nat.le_of_ble_eq_true rfl), (Nat.le_of_ble_eq_true rfl)⟩ dX2_isClock_31 (fun _ _ z => False.elim z) (fun v9 ws9 h7 => ?_)
  obtain ⟨rfl, hw9⟩ := h7
  subst ws9
  dsimp only [mPush]
  refine r_zret hX hE dX2_isClock_34 (b2i_n _) (Nat.le_of_ble_eq_true rfl) (Nat.le_of_ble_eq_true rfl) ⟨by omega, zb ?_, rfl⟩
  rfl

