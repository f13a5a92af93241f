-- 6a zclk
section
/-! The class, exact (rows by a program of this repository). -/
set_option maxHeartbeats 4000000 in
set_option maxRecDepth 20000 in
theorem z_X2_clock (ad : Nat → Nat) (cs : ClassId × ClassId × ClassId) (S : mS) (T : mT2) (rest : va_W) (hS : sWF S) (a0 : Int) (h0 : rJ a0) (a1 : Int) (h1 : rJ a1) (a2 : Int) (h2 : rJ a2) (a3 : Int) (h3 : rJ a3)  : mCt (mTy cs) yX2_clock cX2_clock 7 (some .int) ⟨8, 4, 24, 124⟩ [.ref (ad 0), .int (iZ a0), .int (iZ a1), .int (iZ a2), .int (iZ a3)] (mWd ad cs (mKof S T) rest) (fun v ws' => (((0 ≤ a0 ∧ a0 < 3) ∧ (0 ≤ a3 ∧ a3 < 4)) ∧ ((0 ≤ a1 ∧ a1 ≤ 86399) ∧ (0 ≤ a2 ∧ a2 ≤ 999999999))) ∧ v = some (.int (iZ (oClk S a0.toNat a1 a2 (sof S a3.toNat)).1)) ∧ ws' = mWd ad cs (mKof (oClk S a0.toNat a1 a2 (sof S a3.toNat)).2 T) rest) (fun E ws' => ws' = mWd ad cs (mKof S T) rest ∧ ((E = xI ∧ ¬ ((0 ≤ a0 ∧ a0 < 3) ∧ (0 ≤ a3 ∧ a3 < 4))) ∨ (E = xA ∧ ((0 ≤ a0 ∧ a0 < 3) ∧ (0 ≤ a3 ∧ a3 < 4)) ∧ ¬ ((0 ≤ a1 ∧ a1 ≤ 86399) ∧ (0 ≤ a2 ∧ a2 ≤ 999999999))))) := by
  refine mCt.of (by decide +kernel) (Nat.le_of_ble_eq_true rfl) (fun X hX hE => ?_)
  replace hX : mOK X RX2 cX2_clock 7 ⟨8, 4, 24, 124⟩ [] (mTy cs) := hX
  refine r_aload_n hX dX2_clock_0 rfl rfl (r_get hX kf_X2_24 0 rfl rfl dX2_clock_1 (r_iload_n hX dX2_clock_4 rfl rfl (r_callS hX (z_X2_at ad cs _ 4 _ 3 4 rfl (by decide) _ (by first | with_reducible assumption | decide | omega)) ks_X2_84 rfl rfl (Nat.le_of_ble_eq_true rfl) ⟨(Nat.le_of_ble_eq_true rfl), (Nat.le_of_ble_eq_true rfl)⟩ ⟨(Nat.le_of_ble_eq_true rfl), (Nat.le_of_ble_eq_true rfl)⟩ dX2_clock_5 (fun E ws9 z => r_out hX hE (Nat.le_of_ble_eq_true rfl) (Nat.le_of_ble_eq_true rfl) ⟨z.2.1, Or.inl ⟨z.1, fun q => z.2.2 (by first | with_reducible assumption | decide | omega)⟩⟩) (fun v9 ws9 h1 => ?_))))
  obtain ⟨hi2, rfl, hw9⟩ := h1
  subst ws9
  dsimp only [mPush]
  refine r_astore hX dX2_clock_8 (by decide) rfl (r_aload_n hX dX2_clock_10 rfl rfl (r_iload hX dX2_clock_11 rfl (r_callV hX (z_X2_seconds ad cs S T rest hS _ (by first | with_reducible assumption | decide | omega)) kv_X2_64 0 rfl rfl rfl rfl (Nat.le_of_ble_eq_true rfl) ⟨(Nat.le_of_ble_eq_true rfl), (Nat.le_of_ble_eq_true rfl)⟩ ⟨(Nat.le_of_ble_eq_true rfl), (Nat.le_of_ble_eq_true rfl)⟩ dX2_clock_13 (fun E ws9 z => r_out hX hE (Nat.le_of_ble_eq_true rfl) (Nat.le_of_ble_eq_true rfl) ⟨z.2.1, Or.inl ⟨z.1, fun q => z.2.2 (by first | with_reducible assumption | decide | omega)⟩⟩) (fun v9 ws9 h3 => ?_))))
  obtain ⟨hi4, rfl, hw9⟩ := h3
  subst ws9
  dsimp only [mPush]
  have hof4 := hS.1 a3.toNat (by omega)
  refine r_istore hX dX2_clock_16 (by decide) rfl (r_iload_n hX dX2_clock_18 rfl rfl (r_iconstZ hX dX2_clock_19 (r_ldcZ (z := 86399) hX kc_X2_114 (by decide +kernel) dX2_clock_20 (r_callS hX (z_X2_requireWithin _ _ _ _ _ (by first | with_reducible assumption | decide | omega) (by first | with_reducible assumption | decide | omega) (by first | with_reducible assumption | decide | omega)) ks_X2_40 rfl rfl (Nat.le_of_ble_eq_true rfl) ⟨(Nat.le_of_ble_eq_true rfl), (Nat.le_of_ble_eq_true rfl)⟩ ⟨(Nat.le_of_ble_eq_true rfl), (Nat.le_of_ble_eq_true rfl)⟩ dX2_clock_22 (fun E ws9 z => r_out hX hE (Nat.le_of_ble_eq_true rfl) (Nat.le_of_ble_eq_true rfl) ⟨z.2.1, Or.inr ⟨z.1, by omega, fun q => z.2.2 (by first | with_reducible assumption | decide | omega)⟩⟩) (fun v9 ws9 h5 => ?_)))))
  obtain ⟨hi6, rfl, hw9⟩ := h5
  subst ws9
  dsimp only [mPush]
  refine r_iload_n hX dX2_clock_25 rfl rfl (r_iconstZ hX dX2_clock_26 (r_ldcZ (z := 999999999) hX kc_X2_115 (by decide +kernel) dX2_clock_27 (r_callS hX (z_X2_requireWithin _ _ _ _ _ (by first | with_reducible assumption | decide | omega) (by first | with_reducible assumption | decide | omega) (by first | with_reducible assumption | decide | omega)) ks_X2_40 rfl rfl (Nat.le_of_ble_eq_true rfl) ⟨(Nat.le_of_ble_eq_true rfl), (Nat.le_of_ble_eq_true rfl)⟩ ⟨(Nat.le_of_ble_eq_true rfl), (Nat.le_of_ble_eq_true rfl)⟩ dX2_clock_29 (fun E ws9 z => r_out hX hE (Nat.le_of_ble_eq_true rfl) (Nat.le_of_ble_eq_true rfl) ⟨z.2.1, Or.inr ⟨z.1, by omega, fun q => z.2.2 (by first | with_reducible assumption | decide | omega)⟩⟩) (fun v9 ws9 h7 => ?_))))
  obtain ⟨hi8, rfl, hw9⟩ := h7
  subst ws9
  dsimp only [mPush]
  refine r_aload_n hX dX2_clock_32 rfl rfl (r_aload hX dX2_clock_33 rfl (r_iload_n hX dX2_clock_35 rfl rfl (r_i2lZ hX dX2_clock_36 (by first | with_reducible assumption | decide | omega) (r_iload_n hX dX2_clock_37 rfl rfl (r_iload hX dX2_clock_38 rfl (r_callV hX (z_X2_putClock ad cs S T rest hS a0.toNat (by first | with_reducible assumption | decide | omega) _ _ _ (by first | with_reducible assumption | decide | omega) (by first | with_reducible assumption | decide | omega) (by first | with_reducible assumption | decide | omega)) kv_X2_187 0 rfl rfl rfl rfl (Nat.le_of_ble_eq_true rfl) ⟨(Nat.le_of_ble_eq_true rfl), (Nat.le_of_ble_eq_true rfl)⟩ ⟨(Nat.le_of_ble_eq_true rfl), (Nat.le_of_ble_eq_true rfl)⟩ dX2_clock_40 (fun _ _ z => False.elim z) (fun v9 ws9 h9 => ?_)))))))
  obtain ⟨rfl, hw9⟩ := h9
  subst ws9
  dsimp only [mPush]
  refine r_iret hX hE dX2_clock_43 (Nat.le_of_ble_eq_true rfl) (Nat.le_of_ble_eq_true rfl) ⟨by omega, ?_⟩
  exact ⟨rfl, rfl⟩
set_option maxHeartbeats 4000000 in
set_option maxRecDepth 20000 in
theorem z_X2_clockOf (ad : Nat → Nat) (cs : ClassId × ClassId × ClassId) (S : mS) (T : mT2) (rest : va_W) (hS : sWF S) (a0 : Int) (h0 : rJ a0) (a1 : Int) (h1 : rJ a1)  : mCt (mTy cs) yX2_clockOf cX2_clockOf 5 (some .int) ⟨7, 2, 12, 103⟩ [.ref (ad 0), .int (iZ a0), .int (iZ a1)] (mWd ad cs (mKof S T) rest) (fun v ws' => (((0 ≤ a0 ∧ a0 < 3) ∧ (0 ≤ a1 ∧ a1 < 4)) ∧ (0 ≤ (0 : Int))) ∧ v = some (.int (iZ (oClk S a0.toNat (sse S a1.toNat) (sna S a1.toNat) (sow S a1.toNat)).1)) ∧ ws' = mWd ad cs (mKof (oClk S a0.toNat (sse S a1.toNat) (sna S a1.toNat) (sow S a1.toNat)).2 T) rest) (fun E ws' => ws' = mWd ad cs (mKof S T) rest ∧ ((E = xI ∧ ¬ ((0 ≤ a0 ∧ a0 < 3) ∧ (0 ≤ a1 ∧ a1 < 4))) ∨ (E = xA ∧ ((0 ≤ a0 ∧ a0 < 3) ∧ (0 ≤ a1 ∧ a1 < 4)) ∧ ¬ (0 ≤ (0 : Int))))) := by
  refine mCt.of (by decide +kernel) (Nat.le_of_ble_eq_true rfl) (fun X hX hE => ?_)
  replace hX : mOK X RX2 cX2_clockOf 5 ⟨7, 2, 12, 103⟩ [] (mTy cs) := hX
  refine r_aload_n hX dX2_clockOf_0 rfl rfl (r_get hX kf_X2_24 0 rfl rfl dX2_clockOf_1 (r_iload_n hX dX2_clockOf_4 rfl rfl (r_callS hX (z_X2_at ad cs _ 4 _ 3 4 rfl (by decide) _ (by first | with_reducible assumption | decide | omega)) ks_X2_84 rfl rfl (Nat.le_of_ble_eq_true rfl) ⟨(Nat.le_of_ble_eq_true rfl), (Nat.le_of_ble_eq_true rfl)⟩ ⟨(Nat.le_of_ble_eq_true rfl), (Nat.le_of_ble_eq_true rfl)⟩ dX2_clockOf_5 (fun E ws9 z => r_out hX hE (Nat.le_of_ble_eq_true rfl) (Nat.le_of_ble_eq_true rfl) ⟨z.2.1, Or.inl ⟨z.1, fun q => z.2.2 (by first | with_reducible assumption | decide | omega)⟩⟩) (fun v9 ws9 h1 => ?_))))
  obtain ⟨hi2, rfl, hw9⟩ := h1
  subst ws9
  dsimp only [mPush]
  refine r_astore_n hX dX2_clockOf_8 rfl (by decide) rfl (r_aload_n hX dX2_clockOf_9 rfl rfl (r_get hX kf_X2_20 0 rfl rfl dX2_clockOf_10 (r_iload_n hX dX2_clockOf_13 rfl rfl (r_callS hX (z_X2_at ad cs _ 3 _ 4 0 rfl (by decide) _ (by first | with_reducible assumption | decide | omega)) ks_X2_84 rfl rfl (Nat.le_of_ble_eq_true rfl) ⟨(Nat.le_of_ble_eq_true rfl), (Nat.le_of_ble_eq_true rfl)⟩ ⟨(Nat.le_of_ble_eq_true rfl), (Nat.le_of_ble_eq_true rfl)⟩ dX2_clockOf_14 (fun E ws9 z => r_out hX hE (Nat.le_of_ble_eq_true rfl) (Nat.le_of_ble_eq_true rfl) ⟨z.2.1, Or.inl ⟨z.1, fun q => z.2.2 (by first | with_reducible assumption | decide | omega)⟩⟩) (fun v9 ws9 h3 => ?_)))))
  obtain ⟨hi4, rfl, hw9⟩ := h3
  subst ws9
  dsimp only [mPush]
  refine r_astore hX dX2_clockOf_17 (by decide) rfl (r_aload_n hX dX2_clockOf_19 rfl rfl (r_aload_n hX dX2_clockOf_20 rfl rfl (r_aload hX dX2_clockOf_21 rfl (r_getN hX kg_X2_146 (a1.toNat + 5) (zWd_loc (d := a1.toNat) (by first | with_reducible assumption | decide | omega)) rfl dX2_clockOf_23 (r_aload hX dX2_clockOf_26 rfl (r_getN hX kg_X2_172 (a1.toNat + 5) (zWd_loc (d := a1.toNat) (by first | with_reducible assumption | decide | omega)) rfl dX2_clockOf_28 (r_aload hX dX2_clockOf_31 rfl ?_)))))))
  refine r_getN hX kg_X2_158 (a1.toNat + 5) (zWd_loc (d := a1.toNat) (by first | with_reducible assumption | decide | omega)) rfl dX2_clockOf_33 ?_
  have hr1 := zrg hS (d := a1.toNat) (by omega)
  refine r_callV hX (z_X2_putClock ad cs S T rest hS a0.toNat (by first | with_reducible assumption | decide | omega) _ _ _ (by first | with_reducible assumption | decide | omega) (by first | with_reducible assumption | decide | omega) (by first | with_reducible assumption | decide | omega)) kv_X2_187 0 rfl rfl rfl rfl (Nat.le_of_ble_eq_true rfl) ⟨(Nat.le_of_ble_eq_true rfl), (Nat.le_of_ble_eq_true rfl)⟩ ⟨(Nat.le_of_ble_eq_true rfl), (Nat.le_of_ble_eq_true rfl)⟩ dX2_clockOf_36 (fun _ _ z => False.elim z) (fun v9 ws9 h5 => ?_)
  obtain ⟨rfl, hw9⟩ := h5
  subst ws9
  dsimp only [mPush]
  refine r_iret hX hE dX2_clockOf_39 (Nat.le_of_ble_eq_true rfl) (Nat.le_of_ble_eq_true rfl) ⟨by omega, ?_⟩
  exact ⟨rfl, rfl⟩
set_option maxHeartbeats 4000000 in
set_option maxRecDepth 20000 in
theorem z_X2_strike (ad : Nat → Nat) (cs : ClassId × ClassId × ClassId) (S : mS) (T : mT2) (rest : va_W) (hS : sWF S) (a0 : Int) (h0 : rJ a0) (a1 : Int) (h1 : rJ a1)  : mCt (mTy cs) yX2_strike cX2_strike 5 (some .int) ⟨7, 2, 12, 103⟩ [.ref (ad 0), .int (iZ a0), .int (iZ a1)] (mWd ad cs (mKof S T) rest) (fun v ws' => (((0 ≤ a0 ∧ a0 < 4) ∧ (0 ≤ a1 ∧ a1 < 3)) ∧ (0 ≤ (0 : Int))) ∧ v = some (.int (iZ (oLoc S a0.toNat (sse S a0.toNat / 86400 * 86400 + sse S (a1.toNat + 4)) (sna S (a1.toNat + 4)) (sow S (a1.toNat + 4))).1)) ∧ ws' = mWd ad cs (mKof (oLoc S a0.toNat (sse S a0.toNat / 86400 * 86400 + sse S (a1.toNat + 4)) (sna S (a1.toNat + 4)) (sow S (a1.toNat + 4))).2 T) rest) (fun E ws' => ws' = mWd ad cs (mKof S T) rest ∧ ((E = xI ∧ ¬ ((0 ≤ a0 ∧ a0 < 4) ∧ (0 ≤ a1 ∧ a1 < 3))) ∨ (E = xA ∧ ((0 ≤ a0 ∧ a0 < 4) ∧ (0 ≤ a1 ∧ a1 < 3)) ∧ ¬ (0 ≤ (0 : Int))))) := by
  refine mCt.of (by decide +kernel) (Nat.le_of_ble_eq_true rfl) (fun X hX hE => ?_)
  replace hX : mOK X RX2 cX2_strike 5 ⟨7, 2, 12, 103⟩ [] (mTy cs) := hX
  refine r_aload_n hX dX2_strike_0 rfl rfl (r_get hX kf_X2_20 0 rfl rfl dX2_strike_1 (r_iload_n hX dX2_strike_4 rfl rfl (r_callS hX (z_X2_at ad cs _ 3 _ 4 0 rfl (by decide) _ (by first | with_reducible assumption | decide | omega)) ks_X2_84 rfl rfl (Nat.le_of_ble_eq_true rfl) ⟨(Nat.le_of_ble_eq_true rfl), (Nat.le_of_ble_eq_true rfl)⟩ ⟨(Nat.le_of_ble_eq_true rfl), (Nat.le_of_ble_eq_true rfl)⟩ dX2_strike_5 (fun E ws9 z => r_out hX hE (Nat.le_of_ble_eq_true rfl) (Nat.le_of_ble_eq_true rfl) ⟨z.2.1, Or.inl ⟨z.1, fun q => z.2.2 (by first | with_reducible assumption | decide | omega)⟩⟩) (fun v9 ws9 h1 => ?_))))
  obtain ⟨hi2, rfl, hw9⟩ := h1
  subst ws9
  dsimp only [mPush]
  refine r_astore_n hX dX2_strike_8 rfl (by decide) rfl (r_aload_n hX dX2_strike_9 rfl rfl (r_get hX kf_X2_24 0 rfl rfl dX2_strike_10 (r_iload_n hX dX2_strike_13 rfl rfl (r_callS hX (z_X2_at ad cs _ 4 _ 3 4 rfl (by decide) _ (by first | with_reducible assumption | decide | omega)) ks_X2_84 rfl rfl (Nat.le_of_ble_eq_true rfl) ⟨(Nat.le_of_ble_eq_true rfl), (Nat.le_of_ble_eq_true rfl)⟩ ⟨(Nat.le_of_ble_eq_true rfl), (Nat.le_of_ble_eq_true rfl)⟩ dX2_strike_14 (fun E ws9 z => r_out hX hE (Nat.le_of_ble_eq_true rfl) (Nat.le_of_ble_eq_true rfl) ⟨z.2.1, Or.inl ⟨z.1, fun q => z.2.2 (by first | with_reducible assumption | decide | omega)⟩⟩) (fun v9 ws9 h3 => ?_)))))
  obtain ⟨hi4, rfl, hw9⟩ := h3
  subst ws9
  dsimp only [mPush]
  refine r_astore hX dX2_strike_17 (by decide) rfl (r_aload_n hX dX2_strike_19 rfl rfl (r_aload_n hX dX2_strike_20 rfl rfl (r_aload_n hX dX2_strike_21 rfl rfl ?_)))
  have hr0 := zrg hS (d := a0.toNat) (by omega)
  have hr1 := zrg hS (d := a1.toNat + 4) (by omega)
  refine r_callV hX (z_X1_beginOfDay _ _ (a0.toNat + 5) _ _ _ _ (zWd_loc (d := a0.toNat) (by first | with_reducible assumption | decide | omega)) (zrg hS (by first | with_reducible assumption | decide | omega))) kv_X2_190 (a0.toNat + 5) (zWd_loc (d := a0.toNat) (by first | with_reducible assumption | decide | omega)) rfl rfl rfl (Nat.le_of_ble_eq_true rfl) ⟨(Nat.le_of_ble_eq_true rfl), (Nat.le_of_ble_eq_true rfl)⟩ ⟨(Nat.le_of_ble_eq_true rfl), (Nat.le_of_ble_eq_true rfl)⟩ dX2_strike_22 (fun _ _ z => False.elim z) (fun v9 ws9 h5 => ?_)
  obtain ⟨rfl, hw9⟩ := h5
  subst ws9
  dsimp only [mPush]
  refine r_aload hX dX2_strike_25 rfl (r_getN hX kg_X2_146 ((a1.toNat + 4) + 5) (zWd_loc (d := (a1.toNat + 4)) (by first | with_reducible assumption | decide | omega)) rfl dX2_strike_27 (r_laddZ hX dX2_strike_30 (r_aload hX dX2_strike_31 rfl (r_getN hX kg_X2_172 ((a1.toNat + 4) + 5) (zWd_loc (d := (a1.toNat + 4)) (by first | with_reducible assumption | decide | omega)) rfl dX2_strike_33 (r_aload hX dX2_strike_36 rfl (r_getN hX kg_X2_158 ((a1.toNat + 4) + 5) (zWd_loc (d := (a1.toNat + 4)) (by first | with_reducible assumption | decide | omega)) rfl dX2_strike_38 (r_callV hX (z_X2_putLocal ad cs S T rest hS a0.toNat (by first | with_reducible assumption | decide | omega) _ _ _ (by first | with_reducible assumption | decide | omega) (by first | with_reducible assumption | decide | omega) (by first | with_reducible assumption | decide | omega)) kv_X2_132 0 rfl rfl rfl rfl (Nat.le_of_ble_eq_true rfl) ⟨(Nat.le_of_ble_eq_true rfl), (Nat.le_of_ble_eq_true rfl)⟩ ⟨(Nat.le_of_ble_eq_true rfl), (Nat.le_of_ble_eq_true rfl)⟩ dX2_strike_41 (fun _ _ z => False.elim z) (fun v9 ws9 h6 => ?_))))))))
  obtain ⟨rfl, hw9⟩ := h6
  subst ws9
  dsimp only [mPush]
  refine r_iret hX hE dX2_strike_44 (Nat.le_of_ble_eq_true rfl) (Nat.le_of_ble_eq_true rfl) ⟨by omega, ?_⟩
  exact ⟨rfl, rfl⟩
set_option maxHeartbeats 4000000 in
set_option maxRecDepth 20000 in
theorem z_X2_moveClock (ad : Nat → Nat) (cs : ClassId × ClassId × ClassId) (S : mS) (T : mT2) (rest : va_W) (hS : sWF S) (a0 : Int) (h0 : rJ a0) (a1 : Int) (h1 : rJ a1) (a2 : Int) (h2 : rJ a2) (b3 : Bool)  : mCt (mTy cs) yX2_moveClock cX2_moveClock 8 (some .int) ⟨7, 2, 12, 104⟩ [.ref (ad 0), .int (iZ a0), .int (iZ a1), .int (iZ a2), .int (b2i b3)] (mWd ad cs (mKof S T) rest) (fun v ws' => (((0 ≤ a0 ∧ a0 < 3)) ∧ (4 ≤ a1 ∧ a1 ≤ 7)) ∧ v = some (.int (iZ (oClk S a0.toNat (sse S (a0.toNat + 4) + zSn (sna S (a0.toNat + 4)) a1 (zSg a2 b3)) (zNn (sna S (a0.toNat + 4)) a1 (zSg a2 b3)) (sow S (a0.toNat + 4))).1)) ∧ ws' = mWd ad cs (mKof (oClk S a0.toNat (sse S (a0.toNat + 4) + zSn (sna S (a0.toNat + 4)) a1 (zSg a2 b3)) (zNn (sna S (a0.toNat + 4)) a1 (zSg a2 b3)) (sow S (a0.toNat + 4))).2 T) rest) (fun E ws' => ws' = mWd ad cs (mKof S T) rest ∧ ((E = xI ∧ ¬ ((0 ≤ a0 ∧ a0 < 3))) ∨ (E = xA ∧ ((0 ≤ a0 ∧ a0 < 3)) ∧ ¬ (4 ≤ a1 ∧ a1 ≤ 7)))) := by
  refine mCt.of (by decide +kernel) (Nat.le_of_ble_eq_true rfl) (fun X hX hE => ?_)
  replace hX : mOK X RX2 cX2_moveClock 8 ⟨7, 2, 12, 104⟩ [] (mTy cs) := hX
  refine r_aload_n hX dX2_moveClock_0 rfl rfl (r_get hX kf_X2_24 0 rfl rfl dX2_moveClock_1 (r_iload_n hX dX2_moveClock_4 rfl rfl (r_callS hX (z_X2_at ad cs _ 4 _ 3 4 rfl (by decide) _ (by first | with_reducible assumption | decide | omega)) ks_X2_84 rfl rfl (Nat.le_of_ble_eq_true rfl) ⟨(Nat.le_of_ble_eq_true rfl), (Nat.le_of_ble_eq_true rfl)⟩ ⟨(Nat.le_of_ble_eq_true rfl), (Nat.le_of_ble_eq_true rfl)⟩ dX2_moveClock_5 (fun E ws9 z => r_out hX hE (Nat.le_of_ble_eq_true rfl) (Nat.le_of_ble_eq_true rfl) ⟨z.2.1, Or.inl ⟨z.1, fun q => z.2.2 (by first | with_reducible assumption | decide | omega)⟩⟩) (fun v9 ws9 h1 => ?_))))
  obtain ⟨hi2, rfl, hw9⟩ := h1
  subst ws9
  dsimp only [mPush]
  refine r_astore hX dX2_moveClock_8 (by decide) rfl (r_iload_n hX dX2_moveClock_10 rfl rfl (r_iconstZ hX dX2_moveClock_11 (r_bipushZ hX dX2_moveClock_12 (by decide +kernel) (r_callS hX (z_X2_requireWithin _ _ _ _ _ (by first | with_reducible assumption | decide | omega) (by first | with_reducible assumption | decide | omega) (by first | with_reducible assumption | decide | omega)) ks_X2_40 rfl rfl (Nat.le_of_ble_eq_true rfl) ⟨(Nat.le_of_ble_eq_true rfl), (Nat.le_of_ble_eq_true rfl)⟩ ⟨(Nat.le_of_ble_eq_true rfl), (Nat.le_of_ble_eq_true rfl)⟩ dX2_moveClock_14 (fun E ws9 z => r_out hX hE (Nat.le_of_ble_eq_true rfl) (Nat.le_of_ble_eq_true rfl) ⟨z.2.1, Or.inr ⟨z.1, by omega, fun q => z.2.2 (by first | with_reducible assumption | decide | omega)⟩⟩) (fun v9 ws9 h3 => ?_)))))
  obtain ⟨hi4, rfl, hw9⟩ := h3
  subst ws9
  dsimp only [mPush]
  refine r_iload_n hX dX2_moveClock_17 rfl rfl (r_iload hX dX2_moveClock_18 rfl ?_)
  have hr0 := zrg hS (d := a0.toNat + 4) (by omega)
  refine r_callS hX (z_X2_signed _ _ _ _ (by first | with_reducible assumption | decide | omega)) ks_X2_80 rfl rfl (Nat.le_of_ble_eq_true rfl) ⟨(Nat.le_of_ble_eq_true rfl), (Nat.le_of_ble_eq_true rfl)⟩ ⟨(Nat.le_of_ble_eq_true rfl), (Nat.le_of_ble_eq_true rfl)⟩ dX2_moveClock_20 (fun _ _ z => False.elim z) (fun v9 ws9 h5 => ?_)
  obtain ⟨rfl, hw9⟩ := h5
  subst ws9
  dsimp only [mPush]
  have hsg5 := zSg_b (a := a2) (b := b3) (by omega)
  refine r_lstore hX dX2_moveClock_23 (by decide) rfl (r_aload_n hX dX2_moveClock_25 rfl rfl (r_aload hX dX2_moveClock_26 rfl (r_aload hX dX2_moveClock_28 rfl (r_getN hX kg_X2_146 ((a0.toNat + 4) + 5) (zWd_loc (d := (a0.toNat + 4)) (by first | with_reducible assumption | decide | omega)) rfl dX2_moveClock_30 (r_aload hX dX2_moveClock_33 rfl (r_iload_n hX dX2_moveClock_35 rfl rfl (r_lload hX dX2_moveClock_36 rfl ?_)))))))
  refine r_callS hX (z_X2_secondsOn _ _ ((a0.toNat + 4) + 5) _ _ _ _ (zWd_loc (d := (a0.toNat + 4)) (by first | with_reducible assumption | decide | omega)) (zrg hS (by first | with_reducible assumption | decide | omega)) _ (by first | with_reducible assumption | decide | omega) _ (by first | with_reducible assumption | decide | omega)) ks_X2_150 rfl rfl (Nat.le_of_ble_eq_true rfl) ⟨(Nat.le_of_ble_eq_true rfl), (Nat.le_of_ble_eq_true rfl)⟩ ⟨(Nat.le_of_ble_eq_true rfl), (Nat.le_of_ble_eq_true rfl)⟩ dX2_moveClock_38 (fun _ _ z => False.elim z) (fun v9 ws9 h6 => ?_)
  obtain ⟨rfl, hw9⟩ := h6
  subst ws9
  dsimp only [mPush]
  have hsn6 := zSn_b (n := (sna S (a0.toNat + 4))) (u := a1) (b := (zSg a2 b3)) (by omega) (by omega)
  refine r_laddZ hX dX2_moveClock_41 (r_aload hX dX2_moveClock_42 rfl (r_iload_n hX dX2_moveClock_44 rfl rfl (r_lload hX dX2_moveClock_45 rfl (r_callS hX (z_X2_nanoOn _ _ ((a0.toNat + 4) + 5) _ _ _ _ (zWd_loc (d := (a0.toNat + 4)) (by first | with_reducible assumption | decide | omega)) (zrg hS (by first | with_reducible assumption | decide | omega)) _ (by first | with_reducible assumption | decide | omega) _ (by first | with_reducible assumption | decide | omega)) ks_X2_154 rfl rfl (Nat.le_of_ble_eq_true rfl) ⟨(Nat.le_of_ble_eq_true rfl), (Nat.le_of_ble_eq_true rfl)⟩ ⟨(Nat.le_of_ble_eq_true rfl), (Nat.le_of_ble_eq_true rfl)⟩ dX2_moveClock_47 (fun _ _ z => False.elim z) (fun v9 ws9 h7 => ?_)))))
  obtain ⟨rfl, hw9⟩ := h7
  subst ws9
  dsimp only [mPush]
  have hnn7 := zNn_b (n := (sna S (a0.toNat + 4))) (u := a1) (b := (zSg a2 b3)) (by omega)
  refine r_aload hX dX2_moveClock_50 rfl (r_getN hX kg_X2_158 ((a0.toNat + 4) + 5) (zWd_loc (d := (a0.toNat + 4)) (by first | with_reducible assumption | decide | omega)) rfl dX2_moveClock_52 (r_callV hX (z_X2_putClock ad cs S T rest hS a0.toNat (by first | with_reducible assumption | decide | omega) _ _ _ (by first | with_reducible assumption | decide | omega) (by first | with_reducible assumption | decide | omega) (by first | with_reducible assumption | decide | omega)) kv_X2_187 0 rfl rfl rfl rfl (Nat.le_of_ble_eq_true rfl) ⟨(Nat.le_of_ble_eq_true rfl), (Nat.le_of_ble_eq_true rfl)⟩ ⟨(Nat.le_of_ble_eq_true rfl), (Nat.le_of_ble_eq_true rfl)⟩ dX2_moveClock_55 (fun _ _ z => False.elim z) (fun v9 ws9 h8 => ?_)))
  obtain ⟨rfl, hw9⟩ := h8
  subst ws9
  dsimp only [mPush]
  refine r_iret hX hE dX2_moveClock_58 (Nat.le_of_ble_eq_true rfl) (Nat.le_of_ble_eq_true rfl) ⟨by omega, ?_⟩
  exact ⟨rfl, rfl⟩
set_option maxHeartbeats 4000000 in
set_option maxRecDepth 20000 in
theorem z_X2_anewClock (ad : Nat → Nat) (cs : ClassId × ClassId × ClassId) (S : mS) (T : mT2) (rest : va_W) (hS : sWF S) (a0 : Int) (h0 : rJ a0) (a1 : Int) (h1 : rJ a1) (b2 : Bool)  : mCt (mTy cs) yX2_anewClock cX2_anewClock 8 (some .int) ⟨8, 2, 12, 124⟩ [.ref (ad 0), .int (iZ a0), .int (iZ a1), .int (b2i b2)] (mWd ad cs (mKof S T) rest) (fun v ws' => (((0 ≤ a0 ∧ a0 < 3) ∧ (0 ≤ a1 ∧ a1 < 4)) ∧ (0 ≤ (0 : Int))) ∧ v = some (.int (iZ (oClk S a0.toNat (cond b2 (sse S (a0.toNat + 4)) (sse S (a0.toNat + 4) - sow S (a0.toNat + 4) + sof S a1.toNat)) (sna S (a0.toNat + 4)) (sof S a1.toNat)).1)) ∧ ws' = mWd ad cs (mKof (oClk S a0.toNat (cond b2 (sse S (a0.toNat + 4)) (sse S (a0.toNat + 4) - sow S (a0.toNat + 4) + sof S a1.toNat)) (sna S (a0.toNat + 4)) (sof S a1.toNat)).2 T) rest) (fun E ws' => ws' = mWd ad cs (mKof S T) rest ∧ ((E = xI ∧ ¬ ((0 ≤ a0 ∧ a0 < 3) ∧ (0 ≤ a1 ∧ a1 < 4))) ∨ (E = xA ∧ ((0 ≤ a0 ∧ a0 < 3) ∧ (0 ≤ a1 ∧ a1 < 4)) ∧ ¬ (0 ≤ (0 : Int))))) := by
  refine mCt.of (by decide +kernel) (Nat.le_of_ble_eq_true rfl) (fun X hX hE => ?_)
  replace hX : mOK X RX2 cX2_anewClock 8 ⟨8, 2, 12, 124⟩ [] (mTy cs) := hX
  refine r_aload_n hX dX2_anewClock_0 rfl rfl (r_get hX kf_X2_24 0 rfl rfl dX2_anewClock_1 (r_iload_n hX dX2_anewClock_4 rfl rfl (r_callS hX (z_X2_at ad cs _ 4 _ 3 4 rfl (by decide) _ (by first | with_reducible assumption | decide | omega)) ks_X2_84 rfl rfl (Nat.le_of_ble_eq_true rfl) ⟨(Nat.le_of_ble_eq_true rfl), (Nat.le_of_ble_eq_true rfl)⟩ ⟨(Nat.le_of_ble_eq_true rfl), (Nat.le_of_ble_eq_true rfl)⟩ dX2_anewClock_5 (fun E ws9 z => r_out hX hE (Nat.le_of_ble_eq_true rfl) (Nat.le_of_ble_eq_true rfl) ⟨z.2.1, Or.inl ⟨z.1, fun q => z.2.2 (by first | with_reducible assumption | decide | omega)⟩⟩) (fun v9 ws9 h1 => ?_))))
  obtain ⟨hi2, rfl, hw9⟩ := h1
  subst ws9
  dsimp only [mPush]
  refine r_astore hX dX2_anewClock_8 (by decide) rfl (r_aload_n hX dX2_anewClock_10 rfl rfl (r_iload_n hX dX2_anewClock_11 rfl rfl ?_))
  have hr0 := zrg hS (d := a0.toNat + 4) (by omega)
  refine r_callV hX (z_X2_seconds ad cs S T rest hS _ (by first | with_reducible assumption | decide | omega)) kv_X2_64 0 rfl rfl rfl rfl (Nat.le_of_ble_eq_true rfl) ⟨(Nat.le_of_ble_eq_true rfl), (Nat.le_of_ble_eq_true rfl)⟩ ⟨(Nat.le_of_ble_eq_true rfl), (Nat.le_of_ble_eq_true rfl)⟩ dX2_anewClock_12 (fun E ws9 z => r_out hX hE (Nat.le_of_ble_eq_true rfl) (Nat.le_of_ble_eq_true rfl) ⟨z.2.1, Or.inl ⟨z.1, fun q => z.2.2 (by first | with_reducible assumption | decide | omega)⟩⟩) (fun v9 ws9 h3 => ?_)
  obtain ⟨hi4, rfl, hw9⟩ := h3
  subst ws9
  dsimp only [mPush]
  have hof4 := hS.1 a1.toNat (by omega)
  refine r_istore hX dX2_anewClock_15 (by decide) rfl (r_iload_n hX dX2_anewClock_17 rfl rfl (r_if_eqB (tgt := 29) hX dX2_anewClock_18 (by decide) (fun c5 => ?_) (fun c5 => ?_)))
  · have c5 := id c5
    refine r_aload hX dX2_anewClock_29 rfl (r_callV hX (z_X1_momentSecond _ _ ((a0.toNat + 4) + 5) _ _ _ _ (zWd_loc (d := (a0.toNat + 4)) (by first | with_reducible assumption | decide | omega)) (zrg hS (by first | with_reducible assumption | decide | omega))) kv_X2_169 ((a0.toNat + 4) + 5) (zWd_loc (d := (a0.toNat + 4)) (by first | with_reducible assumption | decide | omega)) rfl rfl rfl (Nat.le_of_ble_eq_true rfl) ⟨(Nat.le_of_ble_eq_true rfl), (Nat.le_of_ble_eq_true rfl)⟩ ⟨(Nat.le_of_ble_eq_true rfl), (Nat.le_of_ble_eq_true rfl)⟩ dX2_anewClock_31 (fun _ _ z => False.elim z) (fun v9 ws9 h6 => ?_))
    obtain ⟨rfl, hw9⟩ := h6
    subst ws9
    dsimp only [mPush]
    refine r_iload hX dX2_anewClock_34 rfl (r_i2lZ hX dX2_anewClock_36 (by first | with_reducible assumption | decide | omega) (r_laddZ hX dX2_anewClock_37 (r_lstore hX dX2_anewClock_38 (by decide) rfl (r_aload_n hX dX2_anewClock_40 rfl rfl (r_aload hX dX2_anewClock_41 rfl (r_lload hX dX2_anewClock_43 rfl (r_aload hX dX2_anewClock_45 rfl ?_)))))))
    refine r_getN hX kg_X2_172 ((a0.toNat + 4) + 5) (zWd_loc (d := (a0.toNat + 4)) (by first | with_reducible assumption | decide | omega)) rfl dX2_anewClock_47 (r_iload hX dX2_anewClock_50 rfl (r_callV hX (z_X2_putClock ad cs S T rest hS a0.toNat (by first | with_reducible assumption | decide | omega) _ _ _ (by first | with_reducible assumption | decide | omega) (by first | with_reducible assumption | decide | omega) (by first | with_reducible assumption | decide | omega)) kv_X2_187 0 rfl rfl rfl rfl (Nat.le_of_ble_eq_true rfl) ⟨(Nat.le_of_ble_eq_true rfl), (Nat.le_of_ble_eq_true rfl)⟩ ⟨(Nat.le_of_ble_eq_true rfl), (Nat.le_of_ble_eq_true rfl)⟩ dX2_anewClock_52 (fun _ _ z => False.elim z) (fun v9 ws9 h7 => ?_)))
    obtain ⟨rfl, hw9⟩ := h7
    subst ws9
    dsimp only [mPush]
    refine r_iret hX hE dX2_anewClock_55 (Nat.le_of_ble_eq_true rfl) (Nat.le_of_ble_eq_true rfl) ⟨by omega, ?_⟩
    first | (rw [show b2 = true by assumption]; exact ⟨rfl, rfl⟩) | (rw [show b2 = false by assumption]; exact ⟨rfl, rfl⟩)
  · have c5 := id c5
    refine r_aload hX dX2_anewClock_21 rfl (r_getN hX kg_X2_146 ((a0.toNat + 4) + 5) (zWd_loc (d := (a0.toNat + 4)) (by first | with_reducible assumption | decide | omega)) rfl dX2_anewClock_23 (r_goto (tgt := 38) hX dX2_anewClock_26 (by decide) (r_lstore hX dX2_anewClock_38 (by decide) rfl (r_aload_n hX dX2_anewClock_40 rfl rfl (r_aload hX dX2_anewClock_41 rfl (r_lload hX dX2_anewClock_43 rfl (r_aload hX dX2_anewClock_45 rfl ?_)))))))
    refine r_getN hX kg_X2_172 ((a0.toNat + 4) + 5) (zWd_loc (d := (a0.toNat + 4)) (by first | with_reducible assumption | decide | omega)) rfl dX2_anewClock_47 (r_iload hX dX2_anewClock_50 rfl (r_callV hX (z_X2_putClock ad cs S T rest hS a0.toNat (by first | with_reducible assumption | decide | omega) _ _ _ (by first | with_reducible assumption | decide | omega) (by first | with_reducible assumption | decide | omega) (by first | with_reducible assumption | decide | omega)) kv_X2_187 0 rfl rfl rfl rfl (Nat.le_of_ble_eq_true rfl) ⟨(Nat.le_of_ble_eq_true rfl), (Nat.le_of_ble_eq_true rfl)⟩ ⟨(Nat.le_of_ble_eq_true rfl), (Nat.le_of_ble_eq_true rfl)⟩ dX2_anewClock_52 (fun _ _ z => False.elim z) (fun v9 ws9 h8 => ?_)))
    obtain ⟨rfl, hw9⟩ := h8
    subst ws9
    dsimp only [mPush]
    refine r_iret hX hE dX2_anewClock_55 (Nat.le_of_ble_eq_true rfl) (Nat.le_of_ble_eq_true rfl) ⟨by omega, ?_⟩
    first | (rw [show b2 = true by assumption]; exact ⟨rfl, rfl⟩) | (rw [show b2 = false by assumption]; exact ⟨rfl, rfl⟩)
set_option maxHeartbeats 4000000 in
set_option maxRecDepth 20000 in
theorem z_X2_copyClock (ad : Nat → Nat) (cs : ClassId × ClassId × ClassId) (S : mS) (T : mT2) (rest : va_W) (hS : sWF S) (a0 : Int) (h0 : rJ a0) (a1 : Int) (h1 : rJ a1)  : mCt (mTy cs) yX2_copyClock cX2_copyClock 5 (some .int) ⟨7, 2, 12, 103⟩ [.ref (ad 0), .int (iZ a0), .int (iZ a1)] (mWd ad cs (mKof S T) rest) (fun v ws' => (((0 ≤ a0 ∧ a0 < 3) ∧ (0 ≤ a1 ∧ a1 < 3)) ∧ (0 ≤ (0 : Int))) ∧ v = some (.int (iZ (oClk S a0.toNat (sse S (a1.toNat + 4)) (sna S (a1.toNat + 4)) (sow S (a1.toNat + 4))).1)) ∧ ws' = mWd ad cs (mKof (oClk S a0.toNat (sse S (a1.toNat + 4)) (sna S (a1.toNat + 4)) (sow S (a1.toNat + 4))).2 T) rest) (fun E ws' => ws' = mWd ad cs (mKof S T) rest ∧ ((E = xI ∧ ¬ ((0 ≤ a0 ∧ a0 < 3) ∧ (0 ≤ a1 ∧ a1 < 3))) ∨ (E = xA ∧ ((0 ≤ a0 ∧ a0 < 3) ∧ (0 ≤ a1 ∧ a1 < 3)) ∧ ¬ (0 ≤ (0 : Int))))) := by
  refine mCt.of (by decide +kernel) (Nat.le_of_ble_eq_true rfl) (fun X hX hE => ?_)
  replace hX : mOK X RX2 cX2_copyClock 5 ⟨7, 2, 12, 103⟩ [] (mTy cs) := hX
  refine r_aload_n hX dX2_copyClock_0 rfl rfl (r_get hX kf_X2_24 0 rfl rfl dX2_copyClock_1 (r_iload_n hX dX2_copyClock_4 rfl rfl (r_callS hX (z_X2_at ad cs _ 4 _ 3 4 rfl (by decide) _ (by first | with_reducible assumption | decide | omega)) ks_X2_84 rfl rfl (Nat.le_of_ble_eq_true rfl) ⟨(Nat.le_of_ble_eq_true rfl), (Nat.le_of_ble_eq_true rfl)⟩ ⟨(Nat.le_of_ble_eq_true rfl), (Nat.le_of_ble_eq_true rfl)⟩ dX2_copyClock_5 (fun E ws9 z => r_out hX hE (Nat.le_of_ble_eq_true rfl) (Nat.le_of_ble_eq_true rfl) ⟨z.2.1, Or.inl ⟨z.1, fun q => z.2.2 (by first | with_reducible assumption | decide | omega)⟩⟩) (fun v9 ws9 h1 => ?_))))
  obtain ⟨hi2, rfl, hw9⟩ := h1
  subst ws9
  dsimp only [mPush]
  refine r_astore_n hX dX2_copyClock_8 rfl (by decide) rfl (r_aload_n hX dX2_copyClock_9 rfl rfl (r_get hX kf_X2_24 0 rfl rfl dX2_copyClock_10 (r_iload_n hX dX2_copyClock_13 rfl rfl (r_callS hX (z_X2_at ad cs _ 4 _ 3 4 rfl (by decide) _ (by first | with_reducible assumption | decide | omega)) ks_X2_84 rfl rfl (Nat.le_of_ble_eq_true rfl) ⟨(Nat.le_of_ble_eq_true rfl), (Nat.le_of_ble_eq_true rfl)⟩ ⟨(Nat.le_of_ble_eq_true rfl), (Nat.le_of_ble_eq_true rfl)⟩ dX2_copyClock_14 (fun E ws9 z => r_out hX hE (Nat.le_of_ble_eq_true rfl) (Nat.le_of_ble_eq_true rfl) ⟨z.2.1, Or.inl ⟨z.1, fun q => z.2.2 (by first | with_reducible assumption | decide | omega)⟩⟩) (fun v9 ws9 h3 => ?_)))))
  obtain ⟨hi4, rfl, hw9⟩ := h3
  subst ws9
  dsimp only [mPush]
  refine r_astore hX dX2_copyClock_17 (by decide) rfl (r_aload_n hX dX2_copyClock_19 rfl rfl (r_aload_n hX dX2_copyClock_20 rfl rfl (r_aload hX dX2_copyClock_21 rfl (r_getN hX kg_X2_146 ((a1.toNat + 4) + 5) (zWd_loc (d := (a1.toNat + 4)) (by first | with_reducible assumption | decide | omega)) rfl dX2_copyClock_23 (r_aload hX dX2_copyClock_26 rfl (r_getN hX kg_X2_172 ((a1.toNat + 4) + 5) (zWd_loc (d := (a1.toNat + 4)) (by first | with_reducible assumption | decide | omega)) rfl dX2_copyClock_28 (r_aload hX dX2_copyClock_31 rfl ?_)))))))
  refine r_getN hX kg_X2_158 ((a1.toNat + 4) + 5) (zWd_loc (d := (a1.toNat + 4)) (by first | with_reducible assumption | decide | omega)) rfl dX2_copyClock_33 ?_
  have hr1 := zrg hS (d := a1.toNat + 4) (by omega)
  refine r_callV hX (z_X2_putClock ad cs S T rest hS a0.toNat (by first | with_reducible assumption | decide | omega) _ _ _ (by first | with_reducible assumption | decide | omega) (by first | with_reducible assumption | decide | omega) (by first | with_reducible assumption | decide | omega)) kv_X2_187 0 rfl rfl rfl rfl (Nat.le_of_ble_eq_true rfl) ⟨(Nat.le_of_ble_eq_true rfl), (Nat.le_of_ble_eq_true rfl)⟩ ⟨(Nat.le_of_ble_eq_true rfl), (Nat.le_of_ble_eq_true rfl)⟩ dX2_copyClock_36 (fun _ _ z => False.elim z) (fun v9 ws9 h5 => ?_)
  obtain ⟨rfl, hw9⟩ := h5
  subst ws9
  dsimp only [mPush]
  refine r_iret hX hE dX2_copyClock_39 (Nat.le_of_ble_eq_true rfl) (Nat.le_of_ble_eq_true rfl) ⟨by omega, ?_⟩
  exact ⟨rfl, rfl⟩
set_option maxHeartbeats 4000000 in
set_option maxRecDepth 20000 in
theorem z_X2_ofClock (ad : Nat → Nat) (cs : ClassId × ClassId × ClassId) (S : mS) (T : mT2) (rest : va_W) (hS : sWF S) (a0 : Int) (h0 : rJ a0) (a1 : Int) (h1 : rJ a1)  : mCt (mTy cs) yX2_ofClock cX2_ofClock 4 (some .int) ⟨7, 2, 12, 104⟩ [.ref (ad 0), .int (iZ a0), .int (iZ a1)] (mWd ad cs (mKof S T) rest) (fun v ws' => (((0 ≤ a0 ∧ a0 < 3)) ∧ (0 ≤ a1 ∧ a1 ≤ 5)) ∧ v = some (.int (iZ (zCP (sse S (a0.toNat + 4)) (sna S (a0.toNat + 4)) (sow S (a0.toNat + 4)) a1))) ∧ ws' = mWd ad cs (mKof S T) rest) (fun E ws' => ws' = mWd ad cs (mKof S T) rest ∧ ((E = xI ∧ ¬ ((0 ≤ a0 ∧ a0 < 3))) ∨ (E = xA ∧ ((0 ≤ a0 ∧ a0 < 3)) ∧ ¬ (0 ≤ a1 ∧ a1 ≤ 5)))) := by
  refine mCt.of (by decide +kernel) (Nat.le_of_ble_eq_true rfl) (fun X hX hE => ?_)
  replace hX : mOK X RX2 cX2_ofClock 4 ⟨7, 2, 12, 104⟩ [] (mTy cs) := hX
  refine r_aload_n hX dX2_ofClock_0 rfl rfl (r_get hX kf_X2_24 0 rfl rfl dX2_ofClock_1 (r_iload_n hX dX2_ofClock_4 rfl rfl (r_callS hX (z_X2_at ad cs _ 4 _ 3 4 rfl (by decide) _ (by first | with_reducible assumption | decide | omega)) ks_X2_84 rfl rfl (Nat.le_of_ble_eq_true rfl) ⟨(Nat.le_of_ble_eq_true rfl), (Nat.le_of_ble_eq_true rfl)⟩ ⟨(Nat.le_of_ble_eq_true rfl), (Nat.le_of_ble_eq_true rfl)⟩ dX2_ofClock_5 (fun E ws9 z => r_out hX hE (Nat.le_of_ble_eq_true rfl) (Nat.le_of_ble_eq_true rfl) ⟨z.2.1, Or.inl ⟨z.1, fun q => z.2.2 (by first | with_reducible assumption | decide | omega)⟩⟩) (fun v9 ws9 h1 => ?_))))
  obtain ⟨hi2, rfl, hw9⟩ := h1
  subst ws9
  dsimp only [mPush]
  refine r_astore_n hX dX2_ofClock_8 rfl (by decide) rfl (r_iload_n hX dX2_ofClock_9 rfl rfl (r_iconstZ hX dX2_ofClock_10 (r_iconstZ hX dX2_ofClock_11 (r_callS hX (z_X2_requireWithin _ _ _ _ _ (by first | with_reducible assumption | decide | omega) (by first | with_reducible assumption | decide | omega) (by first | with_reducible assumption | decide | omega)) ks_X2_40 rfl rfl (Nat.le_of_ble_eq_true rfl) ⟨(Nat.le_of_ble_eq_true rfl), (Nat.le_of_ble_eq_true rfl)⟩ ⟨(Nat.le_of_ble_eq_true rfl), (Nat.le_of_ble_eq_true rfl)⟩ dX2_ofClock_12 (fun E ws9 z => r_out hX hE (Nat.le_of_ble_eq_true rfl) (Nat.le_of_ble_eq_true rfl) ⟨z.2.1, Or.inr ⟨z.1, by omega, fun q => z.2.2 (by first | with_reducible assumption | decide | omega)⟩⟩) (fun v9 ws9 h3 => ?_)))))
  obtain ⟨hi4, rfl, hw9⟩ := h3
  subst ws9
  dsimp only [mPush]
  refine r_aload_n hX dX2_ofClock_15 rfl rfl (r_iload_n hX dX2_ofClock_16 rfl rfl (r_callS hX (z_X2_clockPart _ _ ((a0.toNat + 4) + 5) _ _ _ _ (zWd_loc (d := (a0.toNat + 4)) (by first | with_reducible assumption | decide | omega)) (zrg hS (by first | with_reducible assumption | decide | omega)) _ (by first | with_reducible assumption | decide | omega)) ks_X2_193 rfl rfl (Nat.le_of_ble_eq_true rfl) ⟨(Nat.le_of_ble_eq_true rfl), (Nat.le_of_ble_eq_true rfl)⟩ ⟨(Nat.le_of_ble_eq_true rfl), (Nat.le_of_ble_eq_true rfl)⟩ dX2_ofClock_17 (fun _ _ z => False.elim z) (fun v9 ws9 h5 => ?_)))
  obtain ⟨rfl, hw9⟩ := h5
  subst ws9
  dsimp only [mPush]
  refine r_iret hX hE dX2_ofClock_20 (Nat.le_of_ble_eq_true rfl) (Nat.le_of_ble_eq_true rfl) ⟨by omega, zi ?_, rfl⟩
  rfl
set_option maxHeartbeats 4000000 in
set_option maxRecDepth 20000 in
theorem z_X2_orderClock (ad : Nat → Nat) (cs : ClassId × ClassId × ClassId) (S : mS) (T : mT2) (rest : va_W) (hS : sWF S) (a0 : Int) (h0 : rJ a0) (a1 : Int) (h1 : rJ a1)  : mCt (mTy cs) yX2_orderClock cX2_orderClock 3 (some .int) ⟨7, 2, 12, 103⟩ [.ref (ad 0), .int (iZ a0), .int (iZ a1)] (mWd ad cs (mKof S T) rest) (fun v ws' => (((0 ≤ a0 ∧ a0 < 3) ∧ (0 ≤ a1 ∧ a1 < 3)) ∧ (0 ≤ (0 : Int))) ∧ v = some (.int (iZ (zTo (sse S (a0.toNat + 4)) (sna S (a0.toNat + 4)) (sow S (a0.toNat + 4)) (sse S (a1.toNat + 4)) (sna S (a1.toNat + 4)) (sow S (a1.toNat + 4))))) ∧ ws' = mWd ad cs (mKof S T) rest) (fun E ws' => ws' = mWd ad cs (mKof S T) rest ∧ ((E = xI ∧ ¬ ((0 ≤ a0 ∧ a0 < 3) ∧ (0 ≤ a1 ∧ a1 < 3))) ∨ (E = xA ∧ ((0 ≤ a0 ∧ a0 < 3) ∧ (0 ≤ a1 ∧ a1 < 3)) ∧ ¬ (0 ≤ (0 : Int))))) := by
  refine mCt.of (by decide +kernel) (Nat.le_of_ble_eq_true rfl) (fun X hX hE => ?_)
  replace hX : mOK X RX2 cX2_orderClock 3 ⟨7, 2, 12, 103⟩ [] (mTy cs) := hX
  refine r_aload_n hX dX2_orderClock_0 rfl rfl (r_get hX kf_X2_24 0 rfl rfl dX2_orderClock_1 (r_iload_n hX dX2_orderClock_4 rfl rfl (r_callS hX (z_X2_at ad cs _ 4 _ 3 4 rfl (by decide) _ (by first | with_reducible assumption | decide | omega)) ks_X2_84 rfl rfl (Nat.le_of_ble_eq_true rfl) ⟨(Nat.le_of_ble_eq_true rfl), (Nat.le_of_ble_eq_true rfl)⟩ ⟨(Nat.le_of_ble_eq_true rfl), (Nat.le_of_ble_eq_true rfl)⟩ dX2_orderClock_5 (fun E ws9 z => r_out hX hE (Nat.le_of_ble_eq_true rfl) (Nat.le_of_ble_eq_true rfl) ⟨z.2.1, Or.inl ⟨z.1, fun q => z.2.2 (by first | with_reducible assumption | decide | omega)⟩⟩) (fun v9 ws9 h1 => ?_))))
  obtain ⟨hi2, rfl, hw9⟩ := h1
  subst ws9
  dsimp only [mPush]
  refine r_aload_n hX dX2_orderClock_8 rfl rfl (r_get hX kf_X2_24 0 rfl rfl dX2_orderClock_9 (r_iload_n hX dX2_orderClock_12 rfl rfl (r_callS hX (z_X2_at ad cs _ 4 _ 3 4 rfl (by decide) _ (by first | with_reducible assumption | decide | omega)) ks_X2_84 rfl rfl (Nat.le_of_ble_eq_true rfl) ⟨(Nat.le_of_ble_eq_true rfl), (Nat.le_of_ble_eq_true rfl)⟩ ⟨(Nat.le_of_ble_eq_true rfl), (Nat.le_of_ble_eq_true rfl)⟩ dX2_orderClock_13 (fun E ws9 z => r_out hX hE (Nat.le_of_ble_eq_true rfl) (Nat.le_of_ble_eq_true rfl) ⟨z.2.1, Or.inl ⟨z.1, fun q => z.2.2 (by first | with_reducible assumption | decide | omega)⟩⟩) (fun v9 ws9 h3 => ?_))))
  obtain ⟨hi4, rfl, hw9⟩ := h3
  subst ws9
  dsimp only [mPush]
  refine r_callV hX (z_X1_orderTo _ _ ((a0.toNat + 4) + 5) _ _ _ _ (zWd_loc (d := (a0.toNat + 4)) (by first | with_reducible assumption | decide | omega)) (zrg hS (by first | with_reducible assumption | decide | omega)) ((a1.toNat + 4) + 5) _ _ _ _ (zWd_loc (d := (a1.toNat + 4)) (by first | with_reducible assumption | decide | omega)) (zrg hS (by first | with_reducible assumption | decide | omega))) kv_X2_179 ((a0.toNat + 4) + 5) (zWd_loc (d := (a0.toNat + 4)) (by first | with_reducible assumption | decide | omega)) rfl rfl rfl (Nat.le_of_ble_eq_true rfl) ⟨(Nat.le_of_ble_eq_true rfl), (Nat.le_of_ble_eq_true rfl)⟩ ⟨(Nat.le_of_ble_eq_true rfl), (Nat.le_of_ble_eq_true rfl)⟩ dX2_orderClock_16 (fun _ _ z => False.elim z) (fun v9 ws9 h5 => ?_)
  obtain ⟨rfl, hw9⟩ := h5
  subst ws9
  dsimp only [mPush]
  have hb5 := zTo_b (sse S (a0.toNat + 4)) (sna S (a0.toNat + 4)) (sow S (a0.toNat + 4)) (sse S (a1.toNat + 4)) (sna S (a1.toNat + 4)) (sow S (a1.toNat + 4))
  refine r_iret hX hE dX2_orderClock_19 (Nat.le_of_ble_eq_true rfl) (Nat.le_of_ble_eq_true rfl) ⟨by omega, zi ?_, rfl⟩
  rfl
set_option maxHeartbeats 4000000 in
set_option maxRecDepth 20000 in
theorem z_X2_isClock (ad : Nat → Nat) (cs : ClassId × ClassId × ClassId) (S : mS) (T : mT2) (rest : va_W) (hS : sWF S) (a0 : Int) (h0 : rJ a0) (a1 : Int) (h1 : rJ a1) (a2 : Int) (h2 : rJ a2)  : mCt (mTy cs) yX2_isClock cX2_isClock 6 (some .boolean) ⟨7, 3, 18, 104⟩ [.ref (ad 0), .int (iZ a0), .int (iZ a1), .int (iZ a2)] (mWd ad cs (mKof S T) rest) (fun v ws' => (((0 ≤ a0 ∧ a0 < 3) ∧ (0 ≤ a1 ∧ a1 < 3)) ∧ (0 ≤ a2 ∧ a2 ≤ 3)) ∧ v = some (.int (b2i (zSo (sse S (a0.toNat + 4)) (sna S (a0.toNat + 4)) (sow S (a0.toNat + 4)) (sse S (a1.toNat + 4)) (sna S (a1.toNat + 4)) (sow S (a1.toNat + 4)) a2))) ∧ ws' = mWd ad cs (mKof S T) rest) (fun E ws' => ws' = mWd ad cs (mKof S T) rest ∧ ((E = xI ∧ ¬ ((0 ≤ a0 ∧ a0 < 3) ∧ (0 ≤ a1 ∧ a1 < 3))) ∨ (E = xA ∧ ((0 ≤ a0 ∧ a0 < 3) ∧ (0 ≤ a1 ∧ a1 < 3)) ∧ ¬ (0 ≤ a2 ∧ a2 ≤ 3)))) := by
  refine mCt.of (by decide +kernel) (Nat.le_of_ble_eq_true rfl) (fun X hX hE => ?_)
  replace hX : mOK X RX2 cX2_isClock 6 ⟨7, 3, 18, 104⟩ [] (mTy cs) := hX
  refine r_aload_n hX dX2_isClock_0 rfl rfl (r_get hX kf_X2_24 0 rfl rfl dX2_isClock_1 (r_iload_n hX dX2_isClock_4 rfl rfl (r_callS hX (z_X2_at ad cs _ 4 _ 3 4 rfl (by decide) _ (by first | with_reducible assumption | decide | omega)) ks_X2_84 rfl rfl (Nat.le_of_ble_eq_true rfl) ⟨(Nat.le_of_ble_eq_true rfl), (Nat.le_of_ble_eq_true rfl)⟩ ⟨(Nat.le_of_ble_eq_true rfl), (Nat.le_of_ble_eq_true rfl)⟩ dX2_isClock_5 (fun E ws9 z => r_out hX hE (Nat.le_of_ble_eq_true rfl) (Nat.le_of_ble_eq_true rfl) ⟨z.2.1, Or.inl ⟨z.1, fun q => z.2.2 (by first | with_reducible assumption | decide | omega)⟩⟩) (fun v9 ws9 h1 => ?_))))
  obtain ⟨hi2, rfl, hw9⟩ := h1
  subst ws9
  dsimp only [mPush]
  refine r_astore hX dX2_isClock_8 (by decide) rfl (r_aload_n hX dX2_isClock_10 rfl rfl (r_get hX kf_X2_24 0 rfl rfl dX2_isClock_11 (r_iload_n hX dX2_isClock_14 rfl rfl (r_callS hX (z_X2_at ad cs _ 4 _ 3 4 rfl (by decide) _ (by first | with_reducible assumption | decide | omega)) ks_X2_84 rfl rfl (Nat.le_of_ble_eq_true rfl) ⟨(Nat.le_of_ble_eq_true rfl), (Nat.le_of_ble_eq_true rfl)⟩ ⟨(Nat.le_of_ble_eq_true rfl), (Nat.le_of_ble_eq_true rfl)⟩ dX2_isClock_15 (fun E ws9 z => r_out hX hE (Nat.le_of_ble_eq_true rfl) (Nat.le_of_ble_eq_true rfl) ⟨z.2.1, Or.inl ⟨z.1, fun q => z.2.2 (by first | with_reducible assumption | decide | omega)⟩⟩) (fun v9 ws9 h3 => ?_)))))
  obtain ⟨hi4, rfl, hw9⟩ := h3
  subst ws9
  dsimp only [mPush]
  refine r_astore hX dX2_isClock_18 (by decide) rfl (r_iload_n hX dX2_isClock_20 rfl rfl (r_iconstZ hX dX2_isClock_21 (r_iconstZ hX dX2_isClock_22 (r_callS hX (z_X2_requireWithin _ _ _ _ _ (by first | with_reducible assumption | decide | omega) (by first | with_reducible assumption | decide | omega) (by first | with_reducible assumption | decide | omega)) ks_X2_40 rfl rfl (Nat.le_of_ble_eq_true rfl) ⟨(Nat.le_of_ble_eq_true rfl), (Nat.le_of_ble_eq_true rfl)⟩ ⟨(Nat.le_of_ble_eq_true rfl), (Nat.le_of_ble_eq_true rfl)⟩ dX2_isClock_23 (fun E ws9 z => r_out hX hE (Nat.le_of_ble_eq_true rfl) (Nat.le_of_ble_eq_true rfl) ⟨z.2.1, Or.inr ⟨z.1, by omega, fun q => z.2.2 (by first | with_reducible assumption | decide | omega)⟩⟩) (fun v9 ws9 h5 => ?_)))))
  obtain ⟨hi6, rfl, hw9⟩ := h5
  subst ws9
  dsimp only [mPush]
  refine r_aload hX dX2_isClock_26 rfl (r_aload hX dX2_isClock_28 rfl (r_iload_n hX dX2_isClock_30 rfl rfl (r_callS hX (z_X2_isSo _ _ ((a0.toNat + 4) + 5) _ _ _ _ (zWd_loc (d := (a0.toNat + 4)) (by first | with_reducible assumption | decide | omega)) (zrg hS (by first | with_reducible assumption | decide | omega)) ((a1.toNat + 4) + 5) _ _ _ _ (zWd_loc (d := (a1.toNat + 4)) (by first | with_reducible assumption | decide | omega)) (zrg hS (by first | with_reducible assumption | decide | omega)) _ (by first | with_reducible assumption | decide | omega)) ks_X2_183 rfl rfl (Nat.le_of_ble_eq_true rfl) ⟨(Nat.le_of_ble_eq_true rfl), (Nat.le_of_ble_eq_true rfl)⟩ ⟨(Nat.le_of_ble_eq_true rfl), (Nat.le_of_ble_eq_true rfl)⟩ dX2_isClock_31 (fun _ _ z => False.elim z) (fun v9 ws9 h7 => ?_))))
  obtain ⟨rfl, hw9⟩ := h7
  subst ws9
  dsimp only [mPush]
  refine r_zret hX hE dX2_isClock_34 (b2i_n _) (Nat.le_of_ble_eq_true rfl) (Nat.le_of_ble_eq_true rfl) ⟨by omega, zb ?_, rfl⟩
  rfl
end
-- 6b zsound
section
/-! The class, exact (rows by a program of this repository). -/
theorem zWd_g1 {ad : Nat → Nat} {cs : ClassId × ClassId × ClassId} {S : mS} {a b c : Int} {t : Int64 × Int32 × Int32} {rest : va_W} : (mWd ad cs (mKof S ((lZ a, iZ b, iZ c), t)) rest)[12]? = some (ad 12, .inr (2, [.long (lZ a), .int (iZ b), .int (iZ c)])) := rfl
theorem zWd_g2 {ad : Nat → Nat} {cs : ClassId × ClassId × ClassId} {S : mS} {a b c : Int} {t : Int64 × Int32 × Int32} {rest : va_W} : (mWd ad cs (mKof S (t, (lZ a, iZ b, iZ c))) rest)[13]? = some (ad 13, .inr (2, [.long (lZ a), .int (iZ b), .int (iZ c)])) := rfl
theorem zWd_h1 {ad : Nat → Nat} {cs : ClassId × ClassId × ClassId} {S : mS} {T : mT2} {rest : va_W} : (mWd ad cs (mKof S T) rest)[12]? = some (ad 12, .inr (2, [.long T.1.1, .int T.1.2.1, .int T.1.2.2])) := rfl
theorem zWd_h2 {ad : Nat → Nat} {cs : ClassId × ClassId × ClassId} {S : mS} {T : mT2} {rest : va_W} : (mWd ad cs (mKof S T) rest)[13]? = some (ad 13, .inr (2, [.long T.2.1, .int T.2.2.1, .int T.2.2.2])) := rfl
theorem zWd_t1 {ad : Nat → Nat} {cs : ClassId × ClassId × ClassId} {S : mS} {T : mT2} {a b c : Int} {rest : va_W} : (mWd ad cs (mKof S T) rest).set 12 (ad 12, .inr (2, [.long (lZ a), .int (iZ b), .int (iZ c)])) = mWd ad cs (mKof S ((lZ a, iZ b, iZ c), T.2)) rest := rfl
theorem zWd_t2 {ad : Nat → Nat} {cs : ClassId × ClassId × ClassId} {S : mS} {T : mT2} {a b c : Int} {rest : va_W} : (mWd ad cs (mKof S T) rest).set 13 (ad 13, .inr (2, [.long (lZ a), .int (iZ b), .int (iZ c)])) = mWd ad cs (mKof S (T.1, (lZ a, iZ b, iZ c))) rest := rfl
section ZR3
variable {X : mC} {own : String} {cc : ByteArray} {nL : Nat} {R : Room} {hh : List (Nat × Nat × Nat × Nat)} {tys : List (ClassId × FieldType)} {pc : Nat} {lv : List (Nat × Option Value)} {st : List Value} {ws : va_W} {k n : Nat}
theorem r_icmp_neB1 {b : Bool} {off : Int} {tgt : Nat} (hX : mOK X own cc nL R hh tys) (hd : decode cc pc = .ok (.if_icmp .ne off, 3)) (ht : (pc : Int) + off = (tgt : Int)) (kt : b = false → mV X tgt lv st ws k n) (kf : b = true → mV X (pc + 3) lv st ws k n) : mV X pc lv (.int (iZ 1) :: .int (b2i b) :: st) ws k n :=
  r_icmp_ne hX hd ht (fun q => kt (by cases b; rfl; exact absurd rfl q)) (fun q => kf (by cases b; exact absurd (Classical.not_not.mp q) (by decide); rfl))
theorem r_icmp_neB0 {b : Bool} {off : Int} {tgt : Nat} (hX : mOK X own cc nL R hh tys) (hd : decode cc pc = .ok (.if_icmp .ne off, 3)) (ht : (pc : Int) + off = (tgt : Int)) (kt : b = true → mV X tgt lv st ws k n) (kf : b = false → mV X (pc + 3) lv st ws k n) : mV X pc lv (.int (iZ 0) :: .int (b2i b) :: st) ws k n :=
  r_icmp_ne hX hd ht (fun q => kt (by cases b; exact absurd rfl q; rfl)) (fun q => kf (by cases b; rfl; exact absurd (Classical.not_not.mp q) (by decide)))
end ZR3
theorem z_X2_knock (ad : Nat → Nat) (cs : ClassId × ClassId × ClassId) (S : mS) (T : mT2) (rest : va_W) : mCt (mTy cs) yX2_knock cX2_knock 1 (some .int) ⟨0, 0, 0, 0⟩ [.ref (ad 0)] (mWd ad cs (mKof S T) rest) (fun v ws' => v = some (.int (S.2.2.2.1 + 1)) ∧ ws' = mWd ad cs (mKof (sKn S) T) rest) mNo := by
  refine mCt.of (by decide +kernel) (Nat.le_of_ble_eq_true rfl) (fun X hX hE => ?_)
  have hX : mOK X RX2 cX2_knock 1 ⟨0, 0, 0, 0⟩ [] (mTy cs) := hX
  refine r_aload_n hX dX2_knock_0 rfl rfl (r_dup hX dX2_knock_1 rfl (r_get hX kf_X2_196 0 rfl rfl dX2_knock_2 (r_iconst (v := 1) hX dX2_knock_5 (by decide) (r_iadd hX dX2_knock_6 (r_put hX kf_X2_196 0 rfl rfl rfl rfl (Nat.le_of_ble_eq_true rfl) dX2_knock_7 (r_aload_n hX dX2_knock_10 rfl rfl (r_get hX kf_X2_196 0 rfl rfl dX2_knock_11 ?_)))))))
  exact r_iret hX hE dX2_knock_14 (Nat.le_of_ble_eq_true rfl) (Nat.le_of_ble_eq_true rfl) ⟨rfl, rfl⟩
set_option maxHeartbeats 4000000 in
set_option maxRecDepth 20000 in
theorem z_X2_areMomentsSound (ad : Nat → Nat) (cs : ClassId × ClassId × ClassId) (S : mS) (T : mT2) (rest : va_W) (hS : sWF S)  : mCt (mTy cs) yX2_areMomentsSound cX2_areMomentsSound 5 (some .boolean) ⟨2, 0, 0, 46⟩ [.ref (ad 0)] (mWd ad cs (mKof S T) rest) (fun v ws' => v = some (.int (b2i true)) ∧ ∃ T' : mT2, ws' = mWd ad cs (mKof S T') rest) mNo := by
  refine mCt.of (by decide +kernel) (Nat.le_of_ble_eq_true rfl) (fun X hX hE => ?_)
  replace hX : mOK X RX2 cX2_areMomentsSound 5 ⟨2, 0, 0, 46⟩ [] (mTy cs) := hX
  have hn0 := hS.2.1 0 (by decide)
  have hn1 := hS.2.1 1 (by decide)
  have hn2 := hS.2.1 2 (by decide)
  have hn3 := hS.2.1 3 (by decide)
  have ho0 := hS.1 0 (by decide)
  have ho1 := hS.1 1 (by decide)
  have ho2 := hS.1 2 (by decide)
  have ho3 := hS.1 3 (by decide)
  refine r_iconstZ hX dX2_areMomentsSound_0 (r_istore_n hX dX2_areMomentsSound_1 rfl (by decide) rfl (r_iload_n hX dX2_areMomentsSound_2 rfl rfl (r_aload_n hX dX2_areMomentsSound_3 rfl rfl (r_get hX kf_X2_13 0 rfl rfl dX2_areMomentsSound_4 (r_alen (v := iZ 4) hX 2 1 rfl rfl rfl dX2_areMomentsSound_7 (r_icmp_geZ (tgt := 88) hX dX2_areMomentsSound_8 (by decide) (by decide) (by decide) (fun q => absurd q (by decide)) (fun _ => ?_)))))))
  refine r_aload_n hX dX2_areMomentsSound_11 rfl rfl (r_get hX kf_X2_13 0 rfl rfl dX2_areMomentsSound_12 (r_iload_n hX dX2_areMomentsSound_15 rfl rfl (r_laldZ hX 2 1 rfl rfl 0 (by decide) (by decide) (by decide) dX2_areMomentsSound_16 (r_lstore_n hX dX2_areMomentsSound_17 rfl (by decide) rfl (r_iconstZ hX dX2_areMomentsSound_18 (r_istore hX dX2_areMomentsSound_19 (by decide) rfl (r_iload hX dX2_areMomentsSound_21 rfl ?_)))))))
  refine r_aload_n hX dX2_areMomentsSound_23 rfl rfl (r_get hX kf_X2_9 0 rfl rfl dX2_areMomentsSound_24 (r_alen (v := iZ 4) hX 1 0 rfl rfl rfl dX2_areMomentsSound_27 (r_icmp_geZ (tgt := 82) hX dX2_areMomentsSound_28 (by decide) (by decide) (by decide) (fun q => absurd q (by decide)) (fun _ => ?_))))
  refine r_aload_n hX dX2_areMomentsSound_31 rfl rfl (r_get hX kf_X2_27 0 rfl rfl dX2_areMomentsSound_32 (r_lload_n hX dX2_areMomentsSound_35 rfl rfl (r_callS hX (z_X2_secondOf _ _ _ (by first | with_reducible assumption | decide | omega)) ks_X2_96 rfl rfl (Nat.le_of_ble_eq_true rfl) ⟨(Nat.le_of_ble_eq_true rfl), (Nat.le_of_ble_eq_true rfl)⟩ ⟨(Nat.le_of_ble_eq_true rfl), (Nat.le_of_ble_eq_true rfl)⟩ dX2_areMomentsSound_36 (fun _ _ z => False.elim z) (fun v9 ws9 h1 => ?_))))
  obtain ⟨rfl, hw9⟩ := h1
  subst ws9
  dsimp only [mPush]
  refine r_aload_n hX dX2_areMomentsSound_39 rfl rfl (r_get hX kf_X2_9 0 rfl rfl dX2_areMomentsSound_40 (r_iload hX dX2_areMomentsSound_43 rfl (r_ialdZ hX 1 0 rfl rfl 0 (by decide) (by decide) (by decide) dX2_areMomentsSound_45 (r_i2lZ hX dX2_areMomentsSound_46 (by first | with_reducible assumption | decide | omega) (r_laddZ hX dX2_areMomentsSound_47 (r_lload_n hX dX2_areMomentsSound_48 rfl rfl (r_callS hX (z_X2_nanoOf _ _ _ (by first | with_reducible assumption | decide | omega)) ks_X2_92 rfl rfl (Nat.le_of_ble_eq_true rfl) ⟨(Nat.le_of_ble_eq_true rfl), (Nat.le_of_ble_eq_true rfl)⟩ ⟨(Nat.le_of_ble_eq_true rfl), (Nat.le_of_ble_eq_true rfl)⟩ dX2_areMomentsSound_49 (fun _ _ z => False.elim z) (fun v9 ws9 h2 => ?_))))))))
  obtain ⟨rfl, hw9⟩ := h2
  subst ws9
  dsimp only [mPush]
  refine r_aload_n hX dX2_areMomentsSound_52 rfl rfl (r_get hX kf_X2_9 0 rfl rfl dX2_areMomentsSound_53 (r_iload hX dX2_areMomentsSound_56 rfl (r_ialdZ hX 1 0 rfl rfl 0 (by decide) (by decide) (by decide) dX2_areMomentsSound_58 (r_callV hX (c_X1_tell _ _ 12 _ _ _ _ zWd_h1 _ _ _) kv_X2_270 12 zWd_h1 rfl rfl rfl (Nat.le_of_ble_eq_true rfl) ⟨(Nat.le_of_ble_eq_true rfl), (Nat.le_of_ble_eq_true rfl)⟩ ⟨(Nat.le_of_ble_eq_true rfl), (Nat.le_of_ble_eq_true rfl)⟩ dX2_areMomentsSound_59 (fun _ _ z => False.elim z) (fun v9 ws9 h3 => ?_)))))
  obtain ⟨rfl, hw9⟩ := h3
  subst ws9
  dsimp only [mPush]
  refine r_eqw zWd_t1 (r_aload_n hX dX2_areMomentsSound_62 rfl rfl (r_get hX kf_X2_27 0 rfl rfl dX2_areMomentsSound_63 (r_callS hX (z_X2_numberOf _ _ 12 _ _ _ _ zWd_g1 (by first | with_reducible assumption | decide | omega)) ks_X2_88 rfl rfl (Nat.le_of_ble_eq_true rfl) ⟨(Nat.le_of_ble_eq_true rfl), (Nat.le_of_ble_eq_true rfl)⟩ ⟨(Nat.le_of_ble_eq_true rfl), (Nat.le_of_ble_eq_true rfl)⟩ dX2_areMomentsSound_66 (fun _ _ z => False.elim z) (fun v9 ws9 h4 => ?_))))
  obtain ⟨rfl, hw9⟩ := h4
  subst ws9
  dsimp only [mPush]
  refine r_lload_n hX dX2_areMomentsSound_69 rfl rfl (r_lif_eqZ (tgt := 76) hX dX2_areMomentsSound_70 dX2_areMomentsSound_71 (by decide) (by first | with_reducible assumption | decide | omega) (by first | with_reducible assumption | decide | omega) (fun c5 => ?_) (fun c5 => ?_))
  · refine r_iincZ (z := 1) (y := 1) hX dX2_areMomentsSound_76 rfl (by decide) rfl rfl (r_goto (tgt := 21) hX dX2_areMomentsSound_79 (by decide) (r_iload hX dX2_areMomentsSound_21 rfl (r_aload_n hX dX2_areMomentsSound_23 rfl rfl (r_get hX kf_X2_9 0 rfl rfl dX2_areMomentsSound_24 (r_alen (v := iZ 4) hX 1 0 rfl rfl rfl dX2_areMomentsSound_27 (r_icmp_geZ (tgt := 82) hX dX2_areMomentsSound_28 (by decide) (by decide) (by decide) (fun q => absurd q (by decide)) (fun _ => ?_)))))))
    refine r_aload_n hX dX2_areMomentsSound_31 rfl rfl (r_get hX kf_X2_27 0 rfl rfl dX2_areMomentsSound_32 (r_lload_n hX dX2_areMomentsSound_35 rfl rfl (r_callS hX (z_X2_secondOf _ _ _ (by first | with_reducible assumption | decide | omega)) ks_X2_96 rfl rfl (Nat.le_of_ble_eq_true rfl) ⟨(Nat.le_of_ble_eq_true rfl), (Nat.le_of_ble_eq_true rfl)⟩ ⟨(Nat.le_of_ble_eq_true rfl), (Nat.le_of_ble_eq_true rfl)⟩ dX2_areMomentsSound_36 (fun _ _ z => False.elim z) (fun v9 ws9 h6 => ?_))))
    obtain ⟨rfl, hw9⟩ := h6
    subst ws9
    dsimp only [mPush]
    refine r_aload_n hX dX2_areMomentsSound_39 rfl rfl (r_get hX kf_X2_9 0 rfl rfl dX2_areMomentsSound_40 (r_iload hX dX2_areMomentsSound_43 rfl (r_ialdZ hX 1 0 rfl rfl 1 (by decide) (by decide) (by decide) dX2_areMomentsSound_45 (r_i2lZ hX dX2_areMomentsSound_46 (by first | with_reducible assumption | decide | omega) (r_laddZ hX dX2_areMomentsSound_47 (r_lload_n hX dX2_areMomentsSound_48 rfl rfl (r_callS hX (z_X2_nanoOf _ _ _ (by first | with_reducible assumption | decide | omega)) ks_X2_92 rfl rfl (Nat.le_of_ble_eq_true rfl) ⟨(Nat.le_of_ble_eq_true rfl), (Nat.le_of_ble_eq_true rfl)⟩ ⟨(Nat.le_of_ble_eq_true rfl), (Nat.le_of_ble_eq_true rfl)⟩ dX2_areMomentsSound_49 (fun _ _ z => False.elim z) (fun v9 ws9 h7 => ?_))))))))
    obtain ⟨rfl, hw9⟩ := h7
    subst ws9
    dsimp only [mPush]
    refine r_aload_n hX dX2_areMomentsSound_52 rfl rfl (r_get hX kf_X2_9 0 rfl rfl dX2_areMomentsSound_53 (r_iload hX dX2_areMomentsSound_56 rfl (r_ialdZ hX 1 0 rfl rfl 1 (by decide) (by decide) (by decide) dX2_areMomentsSound_58 (r_callV hX (c_X1_tell _ _ 12 _ _ _ _ zWd_g1 _ _ _) kv_X2_270 12 zWd_g1 rfl rfl rfl (Nat.le_of_ble_eq_true rfl) ⟨(Nat.le_of_ble_eq_true rfl), (Nat.le_of_ble_eq_true rfl)⟩ ⟨(Nat.le_of_ble_eq_true rfl), (Nat.le_of_ble_eq_true rfl)⟩ dX2_areMomentsSound_59 (fun _ _ z => False.elim z) (fun v9 ws9 h8 => ?_)))))
    obtain ⟨rfl, hw9⟩ := h8
    subst ws9
    dsimp only [mPush]
    refine r_eqw zWd_t1 (r_aload_n hX dX2_areMomentsSound_62 rfl rfl (r_get hX kf_X2_27 0 rfl rfl dX2_areMomentsSound_63 (r_callS hX (z_X2_numberOf _ _ 12 _ _ _ _ zWd_g1 (by first | with_reducible assumption | decide | omega)) ks_X2_88 rfl rfl (Nat.le_of_ble_eq_true rfl) ⟨(Nat.le_of_ble_eq_true rfl), (Nat.le_of_ble_eq_true rfl)⟩ ⟨(Nat.le_of_ble_eq_true rfl), (Nat.le_of_ble_eq_true rfl)⟩ dX2_areMomentsSound_66 (fun _ _ z => False.elim z) (fun v9 ws9 h9 => ?_))))
    obtain ⟨rfl, hw9⟩ := h9
    subst ws9
    dsimp only [mPush]
    refine r_lload_n hX dX2_areMomentsSound_69 rfl rfl (r_lif_eqZ (tgt := 76) hX dX2_areMomentsSound_70 dX2_areMomentsSound_71 (by decide) (by first | with_reducible assumption | decide | omega) (by first | with_reducible assumption | decide | omega) (fun c10 => ?_) (fun c10 => ?_))
    · refine r_iincZ (z := 1) (y := 2) hX dX2_areMomentsSound_76 rfl (by decide) rfl rfl (r_goto (tgt := 21) hX dX2_areMomentsSound_79 (by decide) (r_iload hX dX2_areMomentsSound_21 rfl (r_aload_n hX dX2_areMomentsSound_23 rfl rfl (r_get hX kf_X2_9 0 rfl rfl dX2_areMomentsSound_24 (r_alen (v := iZ 4) hX 1 0 rfl rfl rfl dX2_areMomentsSound_27 (r_icmp_geZ (tgt := 82) hX dX2_areMomentsSound_28 (by decide) (by decide) (by decide) (fun q => absurd q (by decide)) (fun _ => ?_)))))))
      refine r_aload_n hX dX2_areMomentsSound_31 rfl rfl (r_get hX kf_X2_27 0 rfl rfl dX2_areMomentsSound_32 (r_lload_n hX dX2_areMomentsSound_35 rfl rfl (r_callS hX (z_X2_secondOf _ _ _ (by first | with_reducible assumption | decide | omega)) ks_X2_96 rfl rfl (Nat.le_of_ble_eq_true rfl) ⟨(Nat.le_of_ble_eq_true rfl), (Nat.le_of_ble_eq_true rfl)⟩ ⟨(Nat.le_of_ble_eq_true rfl), (Nat.le_of_ble_eq_true rfl)⟩ dX2_areMomentsSound_36 (fun _ _ z => False.elim z) (fun v9 ws9 h11 => ?_))))
      obtain ⟨rfl, hw9⟩ := h11
      subst ws9
      dsimp only [mPush]
      refine r_aload_n hX dX2_areMomentsSound_39 rfl rfl (r_get hX kf_X2_9 0 rfl rfl dX2_areMomentsSound_40 (r_iload hX dX2_areMomentsSound_43 rfl (r_ialdZ hX 1 0 rfl rfl 2 (by decide) (by decide) (by decide) dX2_areMomentsSound_45 (r_i2lZ hX dX2_areMomentsSound_46 (by first | with_reducible assumption | decide | omega) (r_laddZ hX dX2_areMomentsSound_47 (r_lload_n hX dX2_areMomentsSound_48 rfl rfl (r_callS hX (z_X2_nanoOf _ _ _ (by first | with_reducible assumption | decide | omega)) ks_X2_92 rfl rfl (Nat.le_of_ble_eq_true rfl) ⟨(Nat.le_of_ble_eq_true rfl), (Nat.le_of_ble_eq_true rfl)⟩ ⟨(Nat.le_of_ble_eq_true rfl), (Nat.le_of_ble_eq_true rfl)⟩ dX2_areMomentsSound_49 (fun _ _ z => False.elim z) (fun v9 ws9 h12 => ?_))))))))
      obtain ⟨rfl, hw9⟩ := h12
      subst ws9
      dsimp only [mPush]
      refine r_aload_n hX dX2_areMomentsSound_52 rfl rfl (r_get hX kf_X2_9 0 rfl rfl dX2_areMomentsSound_53 (r_iload hX dX2_areMomentsSound_56 rfl (r_ialdZ hX 1 0 rfl rfl 2 (by decide) (by decide) (by decide) dX2_areMomentsSound_58 (r_callV hX (c_X1_tell _ _ 12 _ _ _ _ zWd_g1 _ _ _) kv_X2_270 12 zWd_g1 rfl rfl rfl (Nat.le_of_ble_eq_true rfl) ⟨(Nat.le_of_ble_eq_true rfl), (Nat.le_of_ble_eq_true rfl)⟩ ⟨(Nat.le_of_ble_eq_true rfl), (Nat.le_of_ble_eq_true rfl)⟩ dX2_areMomentsSound_59 (fun _ _ z => False.elim z) (fun v9 ws9 h13 => ?_)))))
      obtain ⟨rfl, hw9⟩ := h13
      subst ws9
      dsimp only [mPush]
      refine r_eqw zWd_t1 (r_aload_n hX dX2_areMomentsSound_62 rfl rfl (r_get hX kf_X2_27 0 rfl rfl dX2_areMomentsSound_63 (r_callS hX (z_X2_numberOf _ _ 12 _ _ _ _ zWd_g1 (by first | with_reducible assumption | decide | omega)) ks_X2_88 rfl rfl (Nat.le_of_ble_eq_true rfl) ⟨(Nat.le_of_ble_eq_true rfl), (Nat.le_of_ble_eq_true rfl)⟩ ⟨(Nat.le_of_ble_eq_true rfl), (Nat.le_of_ble_eq_true rfl)⟩ dX2_areMomentsSound_66 (fun _ _ z => False.elim z) (fun v9 ws9 h14 => ?_))))
      obtain ⟨rfl, hw9⟩ := h14
      subst ws9
      dsimp only [mPush]
      refine r_lload_n hX dX2_areMomentsSound_69 rfl rfl (r_lif_eqZ (tgt := 76) hX dX2_areMomentsSound_70 dX2_areMomentsSound_71 (by decide) (by first | with_reducible assumption | decide | omega) (by first | with_reducible assumption | decide | omega) (fun c15 => ?_) (fun c15 => ?_))
      · refine r_iincZ (z := 1) (y := 3) hX dX2_areMomentsSound_76 rfl (by decide) rfl rfl (r_goto (tgt := 21) hX dX2_areMomentsSound_79 (by decide) (r_iload hX dX2_areMomentsSound_21 rfl (r_aload_n hX dX2_areMomentsSound_23 rfl rfl (r_get hX kf_X2_9 0 rfl rfl dX2_areMomentsSound_24 (r_alen (v := iZ 4) hX 1 0 rfl rfl rfl dX2_areMomentsSound_27 (r_icmp_geZ (tgt := 82) hX dX2_areMomentsSound_28 (by decide) (by decide) (by decide) (fun q => absurd q (by decide)) (fun _ => ?_)))))))
        refine r_aload_n hX dX2_areMomentsSound_31 rfl rfl (r_get hX kf_X2_27 0 rfl rfl dX2_areMomentsSound_32 (r_lload_n hX dX2_areMomentsSound_35 rfl rfl (r_callS hX (z_X2_secondOf _ _ _ (by first | with_reducible assumption | decide | omega)) ks_X2_96 rfl rfl (Nat.le_of_ble_eq_true rfl) ⟨(Nat.le_of_ble_eq_true rfl), (Nat.le_of_ble_eq_true rfl)⟩ ⟨(Nat.le_of_ble_eq_true rfl), (Nat.le_of_ble_eq_true rfl)⟩ dX2_areMomentsSound_36 (fun _ _ z => False.elim z) (fun v9 ws9 h16 => ?_))))
        obtain ⟨rfl, hw9⟩ := h16
        subst ws9
        dsimp only [mPush]
        refine r_aload_n hX dX2_areMomentsSound_39 rfl rfl (r_get hX kf_X2_9 0 rfl rfl dX2_areMomentsSound_40 (r_iload hX dX2_areMomentsSound_43 rfl (r_ialdZ hX 1 0 rfl rfl 3 (by decide) (by decide) (by decide) dX2_areMomentsSound_45 (r_i2lZ hX dX2_areMomentsSound_46 (by first | with_reducible assumption | decide | omega) (r_laddZ hX dX2_areMomentsSound_47 (r_lload_n hX dX2_areMomentsSound_48 rfl rfl (r_callS hX (z_X2_nanoOf _ _ _ (by first | with_reducible assumption | decide | omega)) ks_X2_92 rfl rfl (Nat.le_of_ble_eq_true rfl) ⟨(Nat.le_of_ble_eq_true rfl), (Nat.le_of_ble_eq_true rfl)⟩ ⟨(Nat.le_of_ble_eq_true rfl), (Nat.le_of_ble_eq_true rfl)⟩ dX2_areMomentsSound_49 (fun _ _ z => False.elim z) (fun v9 ws9 h17 => ?_))))))))
        obtain ⟨rfl, hw9⟩ := h17
        subst ws9
        dsimp only [mPush]
        refine r_aload_n hX dX2_areMomentsSound_52 rfl rfl (r_get hX kf_X2_9 0 rfl rfl dX2_areMomentsSound_53 (r_iload hX dX2_areMomentsSound_56 rfl (r_ialdZ hX 1 0 rfl rfl 3 (by decide) (by decide) (by decide) dX2_areMomentsSound_58 (r_callV hX (c_X1_tell _ _ 12 _ _ _ _ zWd_g1 _ _ _) kv_X2_270 12 zWd_g1 rfl rfl rfl (Nat.le_of_ble_eq_true rfl) ⟨(Nat.le_of_ble_eq_true rfl), (Nat.le_of_ble_eq_true rfl)⟩ ⟨(Nat.le_of_ble_eq_true rfl), (Nat.le_of_ble_eq_true rfl)⟩ dX2_areMomentsSound_59 (fun _ _ z => False.elim z) (fun v9 ws9 h18 => ?_)))))
        obtain ⟨rfl, hw9⟩ := h18
        subst ws9
        dsimp only [mPush]
        refine r_eqw zWd_t1 (r_aload_n hX dX2_areMomentsSound_62 rfl rfl (r_get hX kf_X2_27 0 rfl rfl dX2_areMomentsSound_63 (r_callS hX (z_X2_numberOf _ _ 12 _ _ _ _ zWd_g1 (by first | with_reducible assumption | decide | omega)) ks_X2_88 rfl rfl (Nat.le_of_ble_eq_true rfl) ⟨(Nat.le_of_ble_eq_true rfl), (Nat.le_of_ble_eq_true rfl)⟩ ⟨(Nat.le_of_ble_eq_true rfl), (Nat.le_of_ble_eq_true rfl)⟩ dX2_areMomentsSound_66 (fun _ _ z => False.elim z) (fun v9 ws9 h19 => ?_))))
        obtain ⟨rfl, hw9⟩ := h19
        subst ws9
        dsimp only [mPush]
        refine r_lload_n hX dX2_areMomentsSound_69 rfl rfl (r_lif_eqZ (tgt := 76) hX dX2_areMomentsSound_70 dX2_areMomentsSound_71 (by decide) (by first | with_reducible assumption | decide | omega) (by first | with_reducible assumption | decide | omega) (fun c20 => ?_) (fun c20 => ?_))
        · refine r_iincZ (z := 1) (y := 4) hX dX2_areMomentsSound_76 rfl (by decide) rfl rfl (r_goto (tgt := 21) hX dX2_areMomentsSound_79 (by decide) (r_iload hX dX2_areMomentsSound_21 rfl (r_aload_n hX dX2_areMomentsSound_23 rfl rfl (r_get hX kf_X2_9 0 rfl rfl dX2_areMomentsSound_24 (r_alen (v := iZ 4) hX 1 0 rfl rfl rfl dX2_areMomentsSound_27 (r_icmp_geZ (tgt := 82) hX dX2_areMomentsSound_28 (by decide) (by decide) (by decide) (fun _ => ?_) (fun q => absurd (by decide) q)))))))
          refine r_iincZ (z := 1) (y := 1) hX dX2_areMomentsSound_82 rfl (by decide) rfl rfl (r_goto (tgt := 2) hX dX2_areMomentsSound_85 (by decide) (r_iload_n hX dX2_areMomentsSound_2 rfl rfl (r_aload_n hX dX2_areMomentsSound_3 rfl rfl (r_get hX kf_X2_13 0 rfl rfl dX2_areMomentsSound_4 (r_alen (v := iZ 4) hX 2 1 rfl rfl rfl dX2_areMomentsSound_7 (r_icmp_geZ (tgt := 88) hX dX2_areMomentsSound_8 (by decide) (by decide) (by decide) (fun q => absurd q (by decide)) (fun _ => ?_)))))))
          refine r_aload_n hX dX2_areMomentsSound_11 rfl rfl (r_get hX kf_X2_13 0 rfl rfl dX2_areMomentsSound_12 (r_iload_n hX dX2_areMomentsSound_15 rfl rfl (r_laldZ hX 2 1 rfl rfl 1 (by decide) (by decide) (by decide) dX2_areMomentsSound_16 (r_lstore_n hX dX2_areMomentsSound_17 rfl (by decide) rfl (r_iconstZ hX dX2_areMomentsSound_18 (r_istore hX dX2_areMomentsSound_19 (by decide) rfl (r_lc4 (i0 := 0) (i1 := 1) (i2 := 2) (i3 := 4) rfl rfl rfl rfl ?_)))))))
          refine r_iload hX dX2_areMomentsSound_21 rfl (r_aload_n hX dX2_areMomentsSound_23 rfl rfl (r_get hX kf_X2_9 0 rfl rfl dX2_areMomentsSound_24 (r_alen (v := iZ 4) hX 1 0 rfl rfl rfl dX2_areMomentsSound_27 (r_icmp_geZ (tgt := 82) hX dX2_areMomentsSound_28 (by decide) (by decide) (by decide) (fun q => absurd q (by decide)) (fun _ => ?_)))))
          refine r_aload_n hX dX2_areMomentsSound_31 rfl rfl (r_get hX kf_X2_27 0 rfl rfl dX2_areMomentsSound_32 (r_lload_n hX dX2_areMomentsSound_35 rfl rfl (r_callS hX (z_X2_secondOf _ _ _ (by first | with_reducible assumption | decide | omega)) ks_X2_96 rfl rfl (Nat.le_of_ble_eq_true rfl) ⟨(Nat.le_of_ble_eq_true rfl), (Nat.le_of_ble_eq_true rfl)⟩ ⟨(Nat.le_of_ble_eq_true rfl), (Nat.le_of_ble_eq_true rfl)⟩ dX2_areMomentsSound_36 (fun _ _ z => False.elim z) (fun v9 ws9 h21 => ?_))))
          obtain ⟨rfl, hw9⟩ := h21
          subst ws9
          dsimp only [mPush]
          refine r_aload_n hX dX2_areMomentsSound_39 rfl rfl (r_get hX kf_X2_9 0 rfl rfl dX2_areMomentsSound_40 (r_iload hX dX2_areMomentsSound_43 rfl (r_ialdZ hX 1 0 rfl rfl 0 (by decide) (by decide) (by decide) dX2_areMomentsSound_45 (r_i2lZ hX dX2_areMomentsSound_46 (by first | with_reducible assumption | decide | omega) (r_laddZ hX dX2_areMomentsSound_47 (r_lload_n hX dX2_areMomentsSound_48 rfl rfl (r_callS hX (z_X2_nanoOf _ _ _ (by first | with_reducible assumption | decide | omega)) ks_X2_92 rfl rfl (Nat.le_of_ble_eq_true rfl) ⟨(Nat.le_of_ble_eq_true rfl), (Nat.le_of_ble_eq_true rfl)⟩ ⟨(Nat.le_of_ble_eq_true rfl), (Nat.le_of_ble_eq_true rfl)⟩ dX2_areMomentsSound_49 (fun _ _ z => False.elim z) (fun v9 ws9 h22 => ?_))))))))
          obtain ⟨rfl, hw9⟩ := h22
          subst ws9
          dsimp only [mPush]
          refine r_aload_n hX dX2_areMomentsSound_52 rfl rfl (r_get hX kf_X2_9 0 rfl rfl dX2_areMomentsSound_53 (r_iload hX dX2_areMomentsSound_56 rfl (r_ialdZ hX 1 0 rfl rfl 0 (by decide) (by decide) (by decide) dX2_areMomentsSound_58 (r_callV hX (c_X1_tell _ _ 12 _ _ _ _ zWd_g1 _ _ _) kv_X2_270 12 zWd_g1 rfl rfl rfl (Nat.le_of_ble_eq_true rfl) ⟨(Nat.le_of_ble_eq_true rfl), (Nat.le_of_ble_eq_true rfl)⟩ ⟨(Nat.le_of_ble_eq_true rfl), (Nat.le_of_ble_eq_true rfl)⟩ dX2_areMomentsSound_59 (fun _ _ z => False.elim z) (fun v9 ws9 h23 => ?_)))))
          obtain ⟨rfl, hw9⟩ := h23
          subst ws9
          dsimp only [mPush]
          refine r_eqw zWd_t1 (r_aload_n hX dX2_areMomentsSound_62 rfl rfl (r_get hX kf_X2_27 0 rfl rfl dX2_areMomentsSound_63 (r_callS hX (z_X2_numberOf _ _ 12 _ _ _ _ zWd_g1 (by first | with_reducible assumption | decide | omega)) ks_X2_88 rfl rfl (Nat.le_of_ble_eq_true rfl) ⟨(Nat.le_of_ble_eq_true rfl), (Nat.le_of_ble_eq_true rfl)⟩ ⟨(Nat.le_of_ble_eq_true rfl), (Nat.le_of_ble_eq_true rfl)⟩ dX2_areMomentsSound_66 (fun _ _ z => False.elim z) (fun v9 ws9 h24 => ?_))))
          obtain ⟨rfl, hw9⟩ := h24
          subst ws9
          dsimp only [mPush]
          refine r_lload_n hX dX2_areMomentsSound_69 rfl rfl (r_lif_eqZ (tgt := 76) hX dX2_areMomentsSound_70 dX2_areMomentsSound_71 (by decide) (by first | with_reducible assumption | decide | omega) (by first | with_reducible assumption | decide | omega) (fun c25 => ?_) (fun c25 => ?_))
          · refine r_iincZ (z := 1) (y := 1) hX dX2_areMomentsSound_76 rfl (by decide) rfl rfl (r_goto (tgt := 21) hX dX2_areMomentsSound_79 (by decide) (r_iload hX dX2_areMomentsSound_21 rfl (r_aload_n hX dX2_areMomentsSound_23 rfl rfl (r_get hX kf_X2_9 0 rfl rfl dX2_areMomentsSound_24 (r_alen (v := iZ 4) hX 1 0 rfl rfl rfl dX2_areMomentsSound_27 (r_icmp_geZ (tgt := 82) hX dX2_areMomentsSound_28 (by decide) (by decide) (by decide) (fun q => absurd q (by decide)) (fun _ => ?_)))))))
            refine r_aload_n hX dX2_areMomentsSound_31 rfl rfl (r_get hX kf_X2_27 0 rfl rfl dX2_areMomentsSound_32 (r_lload_n hX dX2_areMomentsSound_35 rfl rfl (r_callS hX (z_X2_secondOf _ _ _ (by first | with_reducible assumption | decide | omega)) ks_X2_96 rfl rfl (Nat.le_of_ble_eq_true rfl) ⟨(Nat.le_of_ble_eq_true rfl), (Nat.le_of_ble_eq_true rfl)⟩ ⟨(Nat.le_of_ble_eq_true rfl), (Nat.le_of_ble_eq_true rfl)⟩ dX2_areMomentsSound_36 (fun _ _ z => False.elim z) (fun v9 ws9 h26 => ?_))))
            obtain ⟨rfl, hw9⟩ := h26
            subst ws9
            dsimp only [mPush]
            refine r_aload_n hX dX2_areMomentsSound_39 rfl rfl (r_get hX kf_X2_9 0 rfl rfl dX2_areMomentsSound_40 (r_iload hX dX2_areMomentsSound_43 rfl (r_ialdZ hX 1 0 rfl rfl 1 (by decide) (by decide) (by decide) dX2_areMomentsSound_45 (r_i2lZ hX dX2_areMomentsSound_46 (by first | with_reducible assumption | decide | omega) (r_laddZ hX dX2_areMomentsSound_47 (r_lload_n hX dX2_areMomentsSound_48 rfl rfl (r_callS hX (z_X2_nanoOf _ _ _ (by first | with_reducible assumption | decide | omega)) ks_X2_92 rfl rfl (Nat.le_of_ble_eq_true rfl) ⟨(Nat.le_of_ble_eq_true rfl), (Nat.le_of_ble_eq_true rfl)⟩ ⟨(Nat.le_of_ble_eq_true rfl), (Nat.le_of_ble_eq_true rfl)⟩ dX2_areMomentsSound_49 (fun _ _ z => False.elim z) (fun v9 ws9 h27 => ?_))))))))
            obtain ⟨rfl, hw9⟩ := h27
            subst ws9
            dsimp only [mPush]
            refine r_aload_n hX dX2_areMomentsSound_52 rfl rfl (r_get hX kf_X2_9 0 rfl rfl dX2_areMomentsSound_53 (r_iload hX dX2_areMomentsSound_56 rfl (r_ialdZ hX 1 0 rfl rfl 1 (by decide) (by decide) (by decide) dX2_areMomentsSound_58 (r_callV hX (c_X1_tell _ _ 12 _ _ _ _ zWd_g1 _ _ _) kv_X2_270 12 zWd_g1 rfl rfl rfl (Nat.le_of_ble_eq_true rfl) ⟨(Nat.le_of_ble_eq_true rfl), (Nat.le_of_ble_eq_true rfl)⟩ ⟨(Nat.le_of_ble_eq_true rfl), (Nat.le_of_ble_eq_true rfl)⟩ dX2_areMomentsSound_59 (fun _ _ z => False.elim z) (fun v9 ws9 h28 => ?_)))))
            obtain ⟨rfl, hw9⟩ := h28
            subst ws9
            dsimp only [mPush]
            refine r_eqw zWd_t1 (r_aload_n hX dX2_areMomentsSound_62 rfl rfl (r_get hX kf_X2_27 0 rfl rfl dX2_areMomentsSound_63 (r_callS hX (z_X2_numberOf _ _ 12 _ _ _ _ zWd_g1 (by first | with_reducible assumption | decide | omega)) ks_X2_88 rfl rfl (Nat.le_of_ble_eq_true rfl) ⟨(Nat.le_of_ble_eq_true rfl), (Nat.le_of_ble_eq_true rfl)⟩ ⟨(Nat.le_of_ble_eq_true rfl), (Nat.le_of_ble_eq_true rfl)⟩ dX2_areMomentsSound_66 (fun _ _ z => False.elim z) (fun v9 ws9 h29 => ?_))))
            obtain ⟨rfl, hw9⟩ := h29
            subst ws9
            dsimp only [mPush]
            refine r_lload_n hX dX2_areMomentsSound_69 rfl rfl (r_lif_eqZ (tgt := 76) hX dX2_areMomentsSound_70 dX2_areMomentsSound_71 (by decide) (by first | with_reducible assumption | decide | omega) (by first | with_reducible assumption | decide | omega) (fun c30 => ?_) (fun c30 => ?_))
            · refine r_iincZ (z := 1) (y := 2) hX dX2_areMomentsSound_76 rfl (by decide) rfl rfl (r_goto (tgt := 21) hX dX2_areMomentsSound_79 (by decide) (r_iload hX dX2_areMomentsSound_21 rfl (r_aload_n hX dX2_areMomentsSound_23 rfl rfl (r_get hX kf_X2_9 0 rfl rfl dX2_areMomentsSound_24 (r_alen (v := iZ 4) hX 1 0 rfl rfl rfl dX2_areMomentsSound_27 (r_icmp_geZ (tgt := 82) hX dX2_areMomentsSound_28 (by decide) (by decide) (by decide) (fun q => absurd q (by decide)) (fun _ => ?_)))))))
              refine r_aload_n hX dX2_areMomentsSound_31 rfl rfl (r_get hX kf_X2_27 0 rfl rfl dX2_areMomentsSound_32 (r_lload_n hX dX2_areMomentsSound_35 rfl rfl (r_callS hX (z_X2_secondOf _ _ _ (by first | with_reducible assumption | decide | omega)) ks_X2_96 rfl rfl (Nat.le_of_ble_eq_true rfl) ⟨(Nat.le_of_ble_eq_true rfl), (Nat.le_of_ble_eq_true rfl)⟩ ⟨(Nat.le_of_ble_eq_true rfl), (Nat.le_of_ble_eq_true rfl)⟩ dX2_areMomentsSound_36 (fun _ _ z => False.elim z) (fun v9 ws9 h31 => ?_))))
              obtain ⟨rfl, hw9⟩ := h31
              subst ws9
              dsimp only [mPush]
              refine r_aload_n hX dX2_areMomentsSound_39 rfl rfl (r_get hX kf_X2_9 0 rfl rfl dX2_areMomentsSound_40 (r_iload hX dX2_areMomentsSound_43 rfl (r_ialdZ hX 1 0 rfl rfl 2 (by decide) (by decide) (by decide) dX2_areMomentsSound_45 (r_i2lZ hX dX2_areMomentsSound_46 (by first | with_reducible assumption | decide | omega) (r_laddZ hX dX2_areMomentsSound_47 (r_lload_n hX dX2_areMomentsSound_48 rfl rfl (r_callS hX (z_X2_nanoOf _ _ _ (by first | with_reducible assumption | decide | omega)) ks_X2_92 rfl rfl (Nat.le_of_ble_eq_true rfl) ⟨(Nat.le_of_ble_eq_true rfl), (Nat.le_of_ble_eq_true rfl)⟩ ⟨(Nat.le_of_ble_eq_true rfl), (Nat.le_of_ble_eq_true rfl)⟩ dX2_areMomentsSound_49 (fun _ _ z => False.elim z) (fun v9 ws9 h32 => ?_))))))))
              obtain ⟨rfl, hw9⟩ := h32
              subst ws9
              dsimp only [mPush]
              refine r_aload_n hX dX2_areMomentsSound_52 rfl rfl (r_get hX kf_X2_9 0 rfl rfl dX2_areMomentsSound_53 (r_iload hX dX2_areMomentsSound_56 rfl (r_ialdZ hX 1 0 rfl rfl 2 (by decide) (by decide) (by decide) dX2_areMomentsSound_58 (r_callV hX (c_X1_tell _ _ 12 _ _ _ _ zWd_g1 _ _ _) kv_X2_270 12 zWd_g1 rfl rfl rfl (Nat.le_of_ble_eq_true rfl) ⟨(Nat.le_of_ble_eq_true rfl), (Nat.le_of_ble_eq_true rfl)⟩ ⟨(Nat.le_of_ble_eq_true rfl), (Nat.le_of_ble_eq_true rfl)⟩ dX2_areMomentsSound_59 (fun _ _ z => False.elim z) (fun v9 ws9 h33 => ?_)))))
              obtain ⟨rfl, hw9⟩ := h33
              subst ws9
              dsimp only [mPush]
              refine r_eqw zWd_t1 (r_aload_n hX dX2_areMomentsSound_62 rfl rfl (r_get hX kf_X2_27 0 rfl rfl dX2_areMomentsSound_63 (r_callS hX (z_X2_numberOf _ _ 12 _ _ _ _ zWd_g1 (by first | with_reducible assumption | decide | omega)) ks_X2_88 rfl rfl (Nat.le_of_ble_eq_true rfl) ⟨(Nat.le_of_ble_eq_true rfl), (Nat.le_of_ble_eq_true rfl)⟩ ⟨(Nat.le_of_ble_eq_true rfl), (Nat.le_of_ble_eq_true rfl)⟩ dX2_areMomentsSound_66 (fun _ _ z => False.elim z) (fun v9 ws9 h34 => ?_))))
              obtain ⟨rfl, hw9⟩ := h34
              subst ws9
              dsimp only [mPush]
              refine r_lload_n hX dX2_areMomentsSound_69 rfl rfl (r_lif_eqZ (tgt := 76) hX dX2_areMomentsSound_70 dX2_areMomentsSound_71 (by decide) (by first | with_reducible assumption | decide | omega) (by first | with_reducible assumption | decide | omega) (fun c35 => ?_) (fun c35 => ?_))
              · refine r_iincZ (z := 1) (y := 3) hX dX2_areMomentsSound_76 rfl (by decide) rfl rfl (r_goto (tgt := 21) hX dX2_areMomentsSound_79 (by decide) (r_iload hX dX2_areMomentsSound_21 rfl (r_aload_n hX dX2_areMomentsSound_23 rfl rfl (r_get hX kf_X2_9 0 rfl rfl dX2_areMomentsSound_24 (r_alen (v := iZ 4) hX 1 0 rfl rfl rfl dX2_areMomentsSound_27 (r_icmp_geZ (tgt := 82) hX dX2_areMomentsSound_28 (by decide) (by decide) (by decide) (fun q => absurd q (by decide)) (fun _ => ?_)))))))
                refine r_aload_n hX dX2_areMomentsSound_31 rfl rfl (r_get hX kf_X2_27 0 rfl rfl dX2_areMomentsSound_32 (r_lload_n hX dX2_areMomentsSound_35 rfl rfl (r_callS hX (z_X2_secondOf _ _ _ (by first | with_reducible assumption | decide | omega)) ks_X2_96 rfl rfl (Nat.le_of_ble_eq_true rfl) ⟨(Nat.le_of_ble_eq_true rfl), (Nat.le_of_ble_eq_true rfl)⟩ ⟨(Nat.le_of_ble_eq_true rfl), (Nat.le_of_ble_eq_true rfl)⟩ dX2_areMomentsSound_36 (fun _ _ z => False.elim z) (fun v9 ws9 h36 => ?_))))
                obtain ⟨rfl, hw9⟩ := h36
                subst ws9
                dsimp only [mPush]
                refine r_aload_n hX dX2_areMomentsSound_39 rfl rfl (r_get hX kf_X2_9 0 rfl rfl dX2_areMomentsSound_40 (r_iload hX dX2_areMomentsSound_43 rfl (r_ialdZ hX 1 0 rfl rfl 3 (by decide) (by decide) (by decide) dX2_areMomentsSound_45 (r_i2lZ hX dX2_areMomentsSound_46 (by first | with_reducible assumption | decide | omega) (r_laddZ hX dX2_areMomentsSound_47 (r_lload_n hX dX2_areMomentsSound_48 rfl rfl (r_callS hX (z_X2_nanoOf _ _ _ (by first | with_reducible assumption | decide | omega)) ks_X2_92 rfl rfl (Nat.le_of_ble_eq_true rfl) ⟨(Nat.le_of_ble_eq_true rfl), (Nat.le_of_ble_eq_true rfl)⟩ ⟨(Nat.le_of_ble_eq_true rfl), (Nat.le_of_ble_eq_true rfl)⟩ dX2_areMomentsSound_49 (fun _ _ z => False.elim z) (fun v9 ws9 h37 => ?_))))))))
                obtain ⟨rfl, hw9⟩ := h37
                subst ws9
                dsimp only [mPush]
                refine r_aload_n hX dX2_areMomentsSound_52 rfl rfl (r_get hX kf_X2_9 0 rfl rfl dX2_areMomentsSound_53 (r_iload hX dX2_areMomentsSound_56 rfl (r_ialdZ hX 1 0 rfl rfl 3 (by decide) (by decide) (by decide) dX2_areMomentsSound_58 (r_callV hX (c_X1_tell _ _ 12 _ _ _ _ zWd_g1 _ _ _) kv_X2_270 12 zWd_g1 rfl rfl rfl (Nat.le_of_ble_eq_true rfl) ⟨(Nat.le_of_ble_eq_true rfl), (Nat.le_of_ble_eq_true rfl)⟩ ⟨(Nat.le_of_ble_eq_true rfl), (Nat.le_of_ble_eq_true rfl)⟩ dX2_areMomentsSound_59 (fun _ _ z => False.elim z) (fun v9 ws9 h38 => ?_)))))
                obtain ⟨rfl, hw9⟩ := h38
                subst ws9
                dsimp only [mPush]
                refine r_eqw zWd_t1 (r_aload_n hX dX2_areMomentsSound_62 rfl rfl (r_get hX kf_X2_27 0 rfl rfl dX2_areMomentsSound_63 (r_callS hX (z_X2_numberOf _ _ 12 _ _ _ _ zWd_g1 (by first | with_reducible assumption | decide | omega)) ks_X2_88 rfl rfl (Nat.le_of_ble_eq_true rfl) ⟨(Nat.le_of_ble_eq_true rfl), (Nat.le_of_ble_eq_true rfl)⟩ ⟨(Nat.le_of_ble_eq_true rfl), (Nat.le_of_ble_eq_true rfl)⟩ dX2_areMomentsSound_66 (fun _ _ z => False.elim z) (fun v9 ws9 h39 => ?_))))
                obtain ⟨rfl, hw9⟩ := h39
                subst ws9
                dsimp only [mPush]
                refine r_lload_n hX dX2_areMomentsSound_69 rfl rfl (r_lif_eqZ (tgt := 76) hX dX2_areMomentsSound_70 dX2_areMomentsSound_71 (by decide) (by first | with_reducible assumption | decide | omega) (by first | with_reducible assumption | decide | omega) (fun c40 => ?_) (fun c40 => ?_))
                · refine r_iincZ (z := 1) (y := 4) hX dX2_areMomentsSound_76 rfl (by decide) rfl rfl (r_goto (tgt := 21) hX dX2_areMomentsSound_79 (by decide) (r_iload hX dX2_areMomentsSound_21 rfl (r_aload_n hX dX2_areMomentsSound_23 rfl rfl (r_get hX kf_X2_9 0 rfl rfl dX2_areMomentsSound_24 (r_alen (v := iZ 4) hX 1 0 rfl rfl rfl dX2_areMomentsSound_27 (r_icmp_geZ (tgt := 82) hX dX2_areMomentsSound_28 (by decide) (by decide) (by decide) (fun _ => ?_) (fun q => absurd (by decide) q)))))))
                  refine r_iincZ (z := 1) (y := 2) hX dX2_areMomentsSound_82 rfl (by decide) rfl rfl (r_goto (tgt := 2) hX dX2_areMomentsSound_85 (by decide) (r_iload_n hX dX2_areMomentsSound_2 rfl rfl (r_aload_n hX dX2_areMomentsSound_3 rfl rfl (r_get hX kf_X2_13 0 rfl rfl dX2_areMomentsSound_4 (r_alen (v := iZ 4) hX 2 1 rfl rfl rfl dX2_areMomentsSound_7 (r_icmp_geZ (tgt := 88) hX dX2_areMomentsSound_8 (by decide) (by decide) (by decide) (fun q => absurd q (by decide)) (fun _ => ?_)))))))
                  refine r_aload_n hX dX2_areMomentsSound_11 rfl rfl (r_get hX kf_X2_13 0 rfl rfl dX2_areMomentsSound_12 (r_iload_n hX dX2_areMomentsSound_15 rfl rfl (r_laldZ hX 2 1 rfl rfl 2 (by decide) (by decide) (by decide) dX2_areMomentsSound_16 (r_lstore_n hX dX2_areMomentsSound_17 rfl (by decide) rfl (r_iconstZ hX dX2_areMomentsSound_18 (r_istore hX dX2_areMomentsSound_19 (by decide) rfl (r_iload hX dX2_areMomentsSound_21 rfl ?_)))))))
                  refine r_aload_n hX dX2_areMomentsSound_23 rfl rfl (r_get hX kf_X2_9 0 rfl rfl dX2_areMomentsSound_24 (r_alen (v := iZ 4) hX 1 0 rfl rfl rfl dX2_areMomentsSound_27 (r_icmp_geZ (tgt := 82) hX dX2_areMomentsSound_28 (by decide) (by decide) (by decide) (fun q => absurd q (by decide)) (fun _ => ?_))))
                  refine r_aload_n hX dX2_areMomentsSound_31 rfl rfl (r_get hX kf_X2_27 0 rfl rfl dX2_areMomentsSound_32 (r_lload_n hX dX2_areMomentsSound_35 rfl rfl (r_callS hX (z_X2_secondOf _ _ _ (by first | with_reducible assumption | decide | omega)) ks_X2_96 rfl rfl (Nat.le_of_ble_eq_true rfl) ⟨(Nat.le_of_ble_eq_true rfl), (Nat.le_of_ble_eq_true rfl)⟩ ⟨(Nat.le_of_ble_eq_true rfl), (Nat.le_of_ble_eq_true rfl)⟩ dX2_areMomentsSound_36 (fun _ _ z => False.elim z) (fun v9 ws9 h41 => ?_))))
                  obtain ⟨rfl, hw9⟩ := h41
                  subst ws9
                  dsimp only [mPush]
                  refine r_aload_n hX dX2_areMomentsSound_39 rfl rfl (r_get hX kf_X2_9 0 rfl rfl dX2_areMomentsSound_40 (r_iload hX dX2_areMomentsSound_43 rfl (r_ialdZ hX 1 0 rfl rfl 0 (by decide) (by decide) (by decide) dX2_areMomentsSound_45 (r_i2lZ hX dX2_areMomentsSound_46 (by first | with_reducible assumption | decide | omega) (r_laddZ hX dX2_areMomentsSound_47 (r_lload_n hX dX2_areMomentsSound_48 rfl rfl (r_callS hX (z_X2_nanoOf _ _ _ (by first | with_reducible assumption | decide | omega)) ks_X2_92 rfl rfl (Nat.le_of_ble_eq_true rfl) ⟨(Nat.le_of_ble_eq_true rfl), (Nat.le_of_ble_eq_true rfl)⟩ ⟨(Nat.le_of_ble_eq_true rfl), (Nat.le_of_ble_eq_true rfl)⟩ dX2_areMomentsSound_49 (fun _ _ z => False.elim z) (fun v9 ws9 h42 => ?_))))))))
                  obtain ⟨rfl, hw9⟩ := h42
                  subst ws9
                  dsimp only [mPush]
                  refine r_aload_n hX dX2_areMomentsSound_52 rfl rfl (r_get hX kf_X2_9 0 rfl rfl dX2_areMomentsSound_53 (r_iload hX dX2_areMomentsSound_56 rfl (r_ialdZ hX 1 0 rfl rfl 0 (by decide) (by decide) (by decide) dX2_areMomentsSound_58 (r_callV hX (c_X1_tell _ _ 12 _ _ _ _ zWd_g1 _ _ _) kv_X2_270 12 zWd_g1 rfl rfl rfl (Nat.le_of_ble_eq_true rfl) ⟨(Nat.le_of_ble_eq_true rfl), (Nat.le_of_ble_eq_true rfl)⟩ ⟨(Nat.le_of_ble_eq_true rfl), (Nat.le_of_ble_eq_true rfl)⟩ dX2_areMomentsSound_59 (fun _ _ z => False.elim z) (fun v9 ws9 h43 => ?_)))))
                  obtain ⟨rfl, hw9⟩ := h43
                  subst ws9
                  dsimp only [mPush]
                  refine r_eqw zWd_t1 (r_aload_n hX dX2_areMomentsSound_62 rfl rfl (r_get hX kf_X2_27 0 rfl rfl dX2_areMomentsSound_63 (r_callS hX (z_X2_numberOf _ _ 12 _ _ _ _ zWd_g1 (by first | with_reducible assumption | decide | omega)) ks_X2_88 rfl rfl (Nat.le_of_ble_eq_true rfl) ⟨(Nat.le_of_ble_eq_true rfl), (Nat.le_of_ble_eq_true rfl)⟩ ⟨(Nat.le_of_ble_eq_true rfl), (Nat.le_of_ble_eq_true rfl)⟩ dX2_areMomentsSound_66 (fun _ _ z => False.elim z) (fun v9 ws9 h44 => ?_))))
                  obtain ⟨rfl, hw9⟩ := h44
                  subst ws9
                  dsimp only [mPush]
                  refine r_lload_n hX dX2_areMomentsSound_69 rfl rfl (r_lif_eqZ (tgt := 76) hX dX2_areMomentsSound_70 dX2_areMomentsSound_71 (by decide) (by first | with_reducible assumption | decide | omega) (by first | with_reducible assumption | decide | omega) (fun c45 => ?_) (fun c45 => ?_))
                  · refine r_iincZ (z := 1) (y := 1) hX dX2_areMomentsSound_76 rfl (by decide) rfl rfl (r_goto (tgt := 21) hX dX2_areMomentsSound_79 (by decide) (r_iload hX dX2_areMomentsSound_21 rfl (r_aload_n hX dX2_areMomentsSound_23 rfl rfl (r_get hX kf_X2_9 0 rfl rfl dX2_areMomentsSound_24 (r_alen (v := iZ 4) hX 1 0 rfl rfl rfl dX2_areMomentsSound_27 (r_icmp_geZ (tgt := 82) hX dX2_areMomentsSound_28 (by decide) (by decide) (by decide) (fun q => absurd q (by decide)) (fun _ => ?_)))))))
                    refine r_aload_n hX dX2_areMomentsSound_31 rfl rfl (r_get hX kf_X2_27 0 rfl rfl dX2_areMomentsSound_32 (r_lload_n hX dX2_areMomentsSound_35 rfl rfl (r_callS hX (z_X2_secondOf _ _ _ (by first | with_reducible assumption | decide | omega)) ks_X2_96 rfl rfl (Nat.le_of_ble_eq_true rfl) ⟨(Nat.le_of_ble_eq_true rfl), (Nat.le_of_ble_eq_true rfl)⟩ ⟨(Nat.le_of_ble_eq_true rfl), (Nat.le_of_ble_eq_true rfl)⟩ dX2_areMomentsSound_36 (fun _ _ z => False.elim z) (fun v9 ws9 h46 => ?_))))
                    obtain ⟨rfl, hw9⟩ := h46
                    subst ws9
                    dsimp only [mPush]
                    refine r_aload_n hX dX2_areMomentsSound_39 rfl rfl (r_get hX kf_X2_9 0 rfl rfl dX2_areMomentsSound_40 (r_iload hX dX2_areMomentsSound_43 rfl (r_ialdZ hX 1 0 rfl rfl 1 (by decide) (by decide) (by decide) dX2_areMomentsSound_45 (r_i2lZ hX dX2_areMomentsSound_46 (by first | with_reducible assumption | decide | omega) (r_laddZ hX dX2_areMomentsSound_47 (r_lload_n hX dX2_areMomentsSound_48 rfl rfl (r_callS hX (z_X2_nanoOf _ _ _ (by first | with_reducible assumption | decide | omega)) ks_X2_92 rfl rfl (Nat.le_of_ble_eq_true rfl) ⟨(Nat.le_of_ble_eq_true rfl), (Nat.le_of_ble_eq_true rfl)⟩ ⟨(Nat.le_of_ble_eq_true rfl), (Nat.le_of_ble_eq_true rfl)⟩ dX2_areMomentsSound_49 (fun _ _ z => False.elim z) (fun v9 ws9 h47 => ?_))))))))
                    obtain ⟨rfl, hw9⟩ := h47
                    subst ws9
                    dsimp only [mPush]
                    refine r_aload_n hX dX2_areMomentsSound_52 rfl rfl (r_get hX kf_X2_9 0 rfl rfl dX2_areMomentsSound_53 (r_iload hX dX2_areMomentsSound_56 rfl (r_ialdZ hX 1 0 rfl rfl 1 (by decide) (by decide) (by decide) dX2_areMomentsSound_58 (r_callV hX (c_X1_tell _ _ 12 _ _ _ _ zWd_g1 _ _ _) kv_X2_270 12 zWd_g1 rfl rfl rfl (Nat.le_of_ble_eq_true rfl) ⟨(Nat.le_of_ble_eq_true rfl), (Nat.le_of_ble_eq_true rfl)⟩ ⟨(Nat.le_of_ble_eq_true rfl), (Nat.le_of_ble_eq_true rfl)⟩ dX2_areMomentsSound_59 (fun _ _ z => False.elim z) (fun v9 ws9 h48 => ?_)))))
                    obtain ⟨rfl, hw9⟩ := h48
                    subst ws9
                    dsimp only [mPush]
                    refine r_eqw zWd_t1 (r_aload_n hX dX2_areMomentsSound_62 rfl rfl (r_get hX kf_X2_27 0 rfl rfl dX2_areMomentsSound_63 (r_callS hX (z_X2_numberOf _ _ 12 _ _ _ _ zWd_g1 (by first | with_reducible assumption | decide | omega)) ks_X2_88 rfl rfl (Nat.le_of_ble_eq_true rfl) ⟨(Nat.le_of_ble_eq_true rfl), (Nat.le_of_ble_eq_true rfl)⟩ ⟨(Nat.le_of_ble_eq_true rfl), (Nat.le_of_ble_eq_true rfl)⟩ dX2_areMomentsSound_66 (fun _ _ z => False.elim z) (fun v9 ws9 h49 => ?_))))
                    obtain ⟨rfl, hw9⟩ := h49
                    subst ws9
                    dsimp only [mPush]
                    refine r_lload_n hX dX2_areMomentsSound_69 rfl rfl (r_lif_eqZ (tgt := 76) hX dX2_areMomentsSound_70 dX2_areMomentsSound_71 (by decide) (by first | with_reducible assumption | decide | omega) (by first | with_reducible assumption | decide | omega) (fun c50 => ?_) (fun c50 => ?_))
                    · refine r_iincZ (z := 1) (y := 2) hX dX2_areMomentsSound_76 rfl (by decide) rfl rfl (r_goto (tgt := 21) hX dX2_areMomentsSound_79 (by decide) (r_iload hX dX2_areMomentsSound_21 rfl (r_aload_n hX dX2_areMomentsSound_23 rfl rfl (r_get hX kf_X2_9 0 rfl rfl dX2_areMomentsSound_24 (r_alen (v := iZ 4) hX 1 0 rfl rfl rfl dX2_areMomentsSound_27 (r_icmp_geZ (tgt := 82) hX dX2_areMomentsSound_28 (by decide) (by decide) (by decide) (fun q => absurd q (by decide)) (fun _ => ?_)))))))
                      refine r_aload_n hX dX2_areMomentsSound_31 rfl rfl (r_get hX kf_X2_27 0 rfl rfl dX2_areMomentsSound_32 (r_lload_n hX dX2_areMomentsSound_35 rfl rfl (r_callS hX (z_X2_secondOf _ _ _ (by first | with_reducible assumption | decide | omega)) ks_X2_96 rfl rfl (Nat.le_of_ble_eq_true rfl) ⟨(Nat.le_of_ble_eq_true rfl), (Nat.le_of_ble_eq_true rfl)⟩ ⟨(Nat.le_of_ble_eq_true rfl), (Nat.le_of_ble_eq_true rfl)⟩ dX2_areMomentsSound_36 (fun _ _ z => False.elim z) (fun v9 ws9 h51 => ?_))))
                      obtain ⟨rfl, hw9⟩ := h51
                      subst ws9
                      dsimp only [mPush]
                      refine r_aload_n hX dX2_areMomentsSound_39 rfl rfl (r_get hX kf_X2_9 0 rfl rfl dX2_areMomentsSound_40 (r_iload hX dX2_areMomentsSound_43 rfl (r_ialdZ hX 1 0 rfl rfl 2 (by decide) (by decide) (by decide) dX2_areMomentsSound_45 (r_i2lZ hX dX2_areMomentsSound_46 (by first | with_reducible assumption | decide | omega) (r_laddZ hX dX2_areMomentsSound_47 (r_lload_n hX dX2_areMomentsSound_48 rfl rfl (r_callS hX (z_X2_nanoOf _ _ _ (by first | with_reducible assumption | decide | omega)) ks_X2_92 rfl rfl (Nat.le_of_ble_eq_true rfl) ⟨(Nat.le_of_ble_eq_true rfl), (Nat.le_of_ble_eq_true rfl)⟩ ⟨(Nat.le_of_ble_eq_true rfl), (Nat.le_of_ble_eq_true rfl)⟩ dX2_areMomentsSound_49 (fun _ _ z => False.elim z) (fun v9 ws9 h52 => ?_))))))))
                      obtain ⟨rfl, hw9⟩ := h52
                      subst ws9
                      dsimp only [mPush]
                      refine r_aload_n hX dX2_areMomentsSound_52 rfl rfl (r_get hX kf_X2_9 0 rfl rfl dX2_areMomentsSound_53 (r_iload hX dX2_areMomentsSound_56 rfl (r_ialdZ hX 1 0 rfl rfl 2 (by decide) (by decide) (by decide) dX2_areMomentsSound_58 (r_callV hX (c_X1_tell _ _ 12 _ _ _ _ zWd_g1 _ _ _) kv_X2_270 12 zWd_g1 rfl rfl rfl (Nat.le_of_ble_eq_true rfl) ⟨(Nat.le_of_ble_eq_true rfl), (Nat.le_of_ble_eq_true rfl)⟩ ⟨(Nat.le_of_ble_eq_true rfl), (Nat.le_of_ble_eq_true rfl)⟩ dX2_areMomentsSound_59 (fun _ _ z => False.elim z) (fun v9 ws9 h53 => ?_)))))
                      obtain ⟨rfl, hw9⟩ := h53
                      subst ws9
                      dsimp only [mPush]
                      refine r_eqw zWd_t1 (r_aload_n hX dX2_areMomentsSound_62 rfl rfl (r_get hX kf_X2_27 0 rfl rfl dX2_areMomentsSound_63 (r_callS hX (z_X2_numberOf _ _ 12 _ _ _ _ zWd_g1 (by first | with_reducible assumption | decide | omega)) ks_X2_88 rfl rfl (Nat.le_of_ble_eq_true rfl) ⟨(Nat.le_of_ble_eq_true rfl), (Nat.le_of_ble_eq_true rfl)⟩ ⟨(Nat.le_of_ble_eq_true rfl), (Nat.le_of_ble_eq_true rfl)⟩ dX2_areMomentsSound_66 (fun _ _ z => False.elim z) (fun v9 ws9 h54 => ?_))))
                      obtain ⟨rfl, hw9⟩ := h54
                      subst ws9
                      dsimp only [mPush]
                      refine r_lload_n hX dX2_areMomentsSound_69 rfl rfl (r_lif_eqZ (tgt := 76) hX dX2_areMomentsSound_70 dX2_areMomentsSound_71 (by decide) (by first | with_reducible assumption | decide | omega) (by first | with_reducible assumption | decide | omega) (fun c55 => ?_) (fun c55 => ?_))
                      · refine r_iincZ (z := 1) (y := 3) hX dX2_areMomentsSound_76 rfl (by decide) rfl rfl (r_goto (tgt := 21) hX dX2_areMomentsSound_79 (by decide) (r_iload hX dX2_areMomentsSound_21 rfl (r_aload_n hX dX2_areMomentsSound_23 rfl rfl (r_get hX kf_X2_9 0 rfl rfl dX2_areMomentsSound_24 (r_alen (v := iZ 4) hX 1 0 rfl rfl rfl dX2_areMomentsSound_27 (r_icmp_geZ (tgt := 82) hX dX2_areMomentsSound_28 (by decide) (by decide) (by decide) (fun q => absurd q (by decide)) (fun _ => ?_)))))))
                        refine r_aload_n hX dX2_areMomentsSound_31 rfl rfl (r_get hX kf_X2_27 0 rfl rfl dX2_areMomentsSound_32 (r_lload_n hX dX2_areMomentsSound_35 rfl rfl (r_callS hX (z_X2_secondOf _ _ _ (by first | with_reducible assumption | decide | omega)) ks_X2_96 rfl rfl (Nat.le_of_ble_eq_true rfl) ⟨(Nat.le_of_ble_eq_true rfl), (Nat.le_of_ble_eq_true rfl)⟩ ⟨(Nat.le_of_ble_eq_true rfl), (Nat.le_of_ble_eq_true rfl)⟩ dX2_areMomentsSound_36 (fun _ _ z => False.elim z) (fun v9 ws9 h56 => ?_))))
                        obtain ⟨rfl, hw9⟩ := h56
                        subst ws9
                        dsimp only [mPush]
                        refine r_aload_n hX dX2_areMomentsSound_39 rfl rfl (r_get hX kf_X2_9 0 rfl rfl dX2_areMomentsSound_40 (r_iload hX dX2_areMomentsSound_43 rfl (r_ialdZ hX 1 0 rfl rfl 3 (by decide) (by decide) (by decide) dX2_areMomentsSound_45 (r_i2lZ hX dX2_areMomentsSound_46 (by first | with_reducible assumption | decide | omega) (r_laddZ hX dX2_areMomentsSound_47 (r_lload_n hX dX2_areMomentsSound_48 rfl rfl (r_callS hX (z_X2_nanoOf _ _ _ (by first | with_reducible assumption | decide | omega)) ks_X2_92 rfl rfl (Nat.le_of_ble_eq_true rfl) ⟨(Nat.le_of_ble_eq_true rfl), (Nat.le_of_ble_eq_true rfl)⟩ ⟨(Nat.le_of_ble_eq_true rfl), (Nat.le_of_ble_eq_true rfl)⟩ dX2_areMomentsSound_49 (fun _ _ z => False.elim z) (fun v9 ws9 h57 => ?_))))))))
                        obtain ⟨rfl, hw9⟩ := h57
                        subst ws9
                        dsimp only [mPush]
                        refine r_aload_n hX dX2_areMomentsSound_52 rfl rfl (r_get hX kf_X2_9 0 rfl rfl dX2_areMomentsSound_53 (r_iload hX dX2_areMomentsSound_56 rfl (r_ialdZ hX 1 0 rfl rfl 3 (by decide) (by decide) (by decide) dX2_areMomentsSound_58 (r_callV hX (c_X1_tell _ _ 12 _ _ _ _ zWd_g1 _ _ _) kv_X2_270 12 zWd_g1 rfl rfl rfl (Nat.le_of_ble_eq_true rfl) ⟨(Nat.le_of_ble_eq_true rfl), (Nat.le_of_ble_eq_true rfl)⟩ ⟨(Nat.le_of_ble_eq_true rfl), (Nat.le_of_ble_eq_true rfl)⟩ dX2_areMomentsSound_59 (fun _ _ z => False.elim z) (fun v9 ws9 h58 => ?_)))))
                        obtain ⟨rfl, hw9⟩ := h58
                        subst ws9
                        dsimp only [mPush]
                        refine r_eqw zWd_t1 (r_aload_n hX dX2_areMomentsSound_62 rfl rfl (r_get hX kf_X2_27 0 rfl rfl dX2_areMomentsSound_63 (r_callS hX (z_X2_numberOf _ _ 12 _ _ _ _ zWd_g1 (by first | with_reducible assumption | decide | omega)) ks_X2_88 rfl rfl (Nat.le_of_ble_eq_true rfl) ⟨(Nat.le_of_ble_eq_true rfl), (Nat.le_of_ble_eq_true rfl)⟩ ⟨(Nat.le_of_ble_eq_true rfl), (Nat.le_of_ble_eq_true rfl)⟩ dX2_areMomentsSound_66 (fun _ _ z => False.elim z) (fun v9 ws9 h59 => ?_))))
                        obtain ⟨rfl, hw9⟩ := h59
                        subst ws9
                        dsimp only [mPush]
                        refine r_lload_n hX dX2_areMomentsSound_69 rfl rfl (r_lif_eqZ (tgt := 76) hX dX2_areMomentsSound_70 dX2_areMomentsSound_71 (by decide) (by first | with_reducible assumption | decide | omega) (by first | with_reducible assumption | decide | omega) (fun c60 => ?_) (fun c60 => ?_))
                        · refine r_iincZ (z := 1) (y := 4) hX dX2_areMomentsSound_76 rfl (by decide) rfl rfl (r_lc4 (i0 := 0) (i1 := 1) (i2 := 2) (i3 := 4) rfl rfl rfl rfl (r_goto (tgt := 21) hX dX2_areMomentsSound_79 (by decide) (r_iload hX dX2_areMomentsSound_21 rfl (r_aload_n hX dX2_areMomentsSound_23 rfl rfl (r_get hX kf_X2_9 0 rfl rfl dX2_areMomentsSound_24 (r_alen (v := iZ 4) hX 1 0 rfl rfl rfl dX2_areMomentsSound_27 (r_icmp_geZ (tgt := 82) hX dX2_areMomentsSound_28 (by decide) (by decide) (by decide) (fun _ => ?_) (fun q => absurd (by decide) q))))))))
                          refine r_iincZ (z := 1) (y := 3) hX dX2_areMomentsSound_82 rfl (by decide) rfl rfl (r_goto (tgt := 2) hX dX2_areMomentsSound_85 (by decide) (r_iload_n hX dX2_areMomentsSound_2 rfl rfl (r_aload_n hX dX2_areMomentsSound_3 rfl rfl (r_get hX kf_X2_13 0 rfl rfl dX2_areMomentsSound_4 (r_alen (v := iZ 4) hX 2 1 rfl rfl rfl dX2_areMomentsSound_7 (r_icmp_geZ (tgt := 88) hX dX2_areMomentsSound_8 (by decide) (by decide) (by decide) (fun q => absurd q (by decide)) (fun _ => ?_)))))))
                          refine r_aload_n hX dX2_areMomentsSound_11 rfl rfl (r_get hX kf_X2_13 0 rfl rfl dX2_areMomentsSound_12 (r_iload_n hX dX2_areMomentsSound_15 rfl rfl (r_laldZ hX 2 1 rfl rfl 3 (by decide) (by decide) (by decide) dX2_areMomentsSound_16 (r_lstore_n hX dX2_areMomentsSound_17 rfl (by decide) rfl (r_iconstZ hX dX2_areMomentsSound_18 (r_istore hX dX2_areMomentsSound_19 (by decide) rfl (r_iload hX dX2_areMomentsSound_21 rfl ?_)))))))
                          refine r_aload_n hX dX2_areMomentsSound_23 rfl rfl (r_get hX kf_X2_9 0 rfl rfl dX2_areMomentsSound_24 (r_alen (v := iZ 4) hX 1 0 rfl rfl rfl dX2_areMomentsSound_27 (r_icmp_geZ (tgt := 82) hX dX2_areMomentsSound_28 (by decide) (by decide) (by decide) (fun q => absurd q (by decide)) (fun _ => ?_))))
                          refine r_aload_n hX dX2_areMomentsSound_31 rfl rfl (r_get hX kf_X2_27 0 rfl rfl dX2_areMomentsSound_32 (r_lload_n hX dX2_areMomentsSound_35 rfl rfl (r_callS hX (z_X2_secondOf _ _ _ (by first | with_reducible assumption | decide | omega)) ks_X2_96 rfl rfl (Nat.le_of_ble_eq_true rfl) ⟨(Nat.le_of_ble_eq_true rfl), (Nat.le_of_ble_eq_true rfl)⟩ ⟨(Nat.le_of_ble_eq_true rfl), (Nat.le_of_ble_eq_true rfl)⟩ dX2_areMomentsSound_36 (fun _ _ z => False.elim z) (fun v9 ws9 h61 => ?_))))
                          obtain ⟨rfl, hw9⟩ := h61
                          subst ws9
                          dsimp only [mPush]
                          refine r_aload_n hX dX2_areMomentsSound_39 rfl rfl (r_get hX kf_X2_9 0 rfl rfl dX2_areMomentsSound_40 (r_iload hX dX2_areMomentsSound_43 rfl (r_ialdZ hX 1 0 rfl rfl 0 (by decide) (by decide) (by decide) dX2_areMomentsSound_45 (r_i2lZ hX dX2_areMomentsSound_46 (by first | with_reducible assumption | decide | omega) (r_laddZ hX dX2_areMomentsSound_47 (r_lload_n hX dX2_areMomentsSound_48 rfl rfl (r_callS hX (z_X2_nanoOf _ _ _ (by first | with_reducible assumption | decide | omega)) ks_X2_92 rfl rfl (Nat.le_of_ble_eq_true rfl) ⟨(Nat.le_of_ble_eq_true rfl), (Nat.le_of_ble_eq_true rfl)⟩ ⟨(Nat.le_of_ble_eq_true rfl), (Nat.le_of_ble_eq_true rfl)⟩ dX2_areMomentsSound_49 (fun _ _ z => False.elim z) (fun v9 ws9 h62 => ?_))))))))
                          obtain ⟨rfl, hw9⟩ := h62
                          subst ws9
                          dsimp only [mPush]
                          refine r_aload_n hX dX2_areMomentsSound_52 rfl rfl (r_get hX kf_X2_9 0 rfl rfl dX2_areMomentsSound_53 (r_iload hX dX2_areMomentsSound_56 rfl (r_ialdZ hX 1 0 rfl rfl 0 (by decide) (by decide) (by decide) dX2_areMomentsSound_58 (r_callV hX (c_X1_tell _ _ 12 _ _ _ _ zWd_g1 _ _ _) kv_X2_270 12 zWd_g1 rfl rfl rfl (Nat.le_of_ble_eq_true rfl) ⟨(Nat.le_of_ble_eq_true rfl), (Nat.le_of_ble_eq_true rfl)⟩ ⟨(Nat.le_of_ble_eq_true rfl), (Nat.le_of_ble_eq_true rfl)⟩ dX2_areMomentsSound_59 (fun _ _ z => False.elim z) (fun v9 ws9 h63 => ?_)))))
                          obtain ⟨rfl, hw9⟩ := h63
                          subst ws9
                          dsimp only [mPush]
                          refine r_eqw zWd_t1 (r_aload_n hX dX2_areMomentsSound_62 rfl rfl (r_get hX kf_X2_27 0 rfl rfl dX2_areMomentsSound_63 (r_callS hX (z_X2_numberOf _ _ 12 _ _ _ _ zWd_g1 (by first | with_reducible assumption | decide | omega)) ks_X2_88 rfl rfl (Nat.le_of_ble_eq_true rfl) ⟨(Nat.le_of_ble_eq_true rfl), (Nat.le_of_ble_eq_true rfl)⟩ ⟨(Nat.le_of_ble_eq_true rfl), (Nat.le_of_ble_eq_true rfl)⟩ dX2_areMomentsSound_66 (fun _ _ z => False.elim z) (fun v9 ws9 h64 => ?_))))
                          obtain ⟨rfl, hw9⟩ := h64
                          subst ws9
                          dsimp only [mPush]
                          refine r_lload_n hX dX2_areMomentsSound_69 rfl rfl (r_lif_eqZ (tgt := 76) hX dX2_areMomentsSound_70 dX2_areMomentsSound_71 (by decide) (by first | with_reducible assumption | decide | omega) (by first | with_reducible assumption | decide | omega) (fun c65 => ?_) (fun c65 => ?_))
                          · refine r_iincZ (z := 1) (y := 1) hX dX2_areMomentsSound_76 rfl (by decide) rfl rfl (r_goto (tgt := 21) hX dX2_areMomentsSound_79 (by decide) (r_iload hX dX2_areMomentsSound_21 rfl (r_aload_n hX dX2_areMomentsSound_23 rfl rfl (r_get hX kf_X2_9 0 rfl rfl dX2_areMomentsSound_24 (r_alen (v := iZ 4) hX 1 0 rfl rfl rfl dX2_areMomentsSound_27 (r_icmp_geZ (tgt := 82) hX dX2_areMomentsSound_28 (by decide) (by decide) (by decide) (fun q => absurd q (by decide)) (fun _ => ?_)))))))
                            refine r_aload_n hX dX2_areMomentsSound_31 rfl rfl (r_get hX kf_X2_27 0 rfl rfl dX2_areMomentsSound_32 (r_lload_n hX dX2_areMomentsSound_35 rfl rfl (r_callS hX (z_X2_secondOf _ _ _ (by first | with_reducible assumption | decide | omega)) ks_X2_96 rfl rfl (Nat.le_of_ble_eq_true rfl) ⟨(Nat.le_of_ble_eq_true rfl), (Nat.le_of_ble_eq_true rfl)⟩ ⟨(Nat.le_of_ble_eq_true rfl), (Nat.le_of_ble_eq_true rfl)⟩ dX2_areMomentsSound_36 (fun _ _ z => False.elim z) (fun v9 ws9 h66 => ?_))))
                            obtain ⟨rfl, hw9⟩ := h66
                            subst ws9
                            dsimp only [mPush]
                            refine r_aload_n hX dX2_areMomentsSound_39 rfl rfl (r_get hX kf_X2_9 0 rfl rfl dX2_areMomentsSound_40 (r_iload hX dX2_areMomentsSound_43 rfl (r_ialdZ hX 1 0 rfl rfl 1 (by decide) (by decide) (by decide) dX2_areMomentsSound_45 (r_i2lZ hX dX2_areMomentsSound_46 (by first | with_reducible assumption | decide | omega) (r_laddZ hX dX2_areMomentsSound_47 (r_lload_n hX dX2_areMomentsSound_48 rfl rfl (r_callS hX (z_X2_nanoOf _ _ _ (by first | with_reducible assumption | decide | omega)) ks_X2_92 rfl rfl (Nat.le_of_ble_eq_true rfl) ⟨(Nat.le_of_ble_eq_true rfl), (Nat.le_of_ble_eq_true rfl)⟩ ⟨(Nat.le_of_ble_eq_true rfl), (Nat.le_of_ble_eq_true rfl)⟩ dX2_areMomentsSound_49 (fun _ _ z => False.elim z) (fun v9 ws9 h67 => ?_))))))))
                            obtain ⟨rfl, hw9⟩ := h67
                            subst ws9
                            dsimp only [mPush]
                            refine r_aload_n hX dX2_areMomentsSound_52 rfl rfl (r_get hX kf_X2_9 0 rfl rfl dX2_areMomentsSound_53 (r_iload hX dX2_areMomentsSound_56 rfl (r_ialdZ hX 1 0 rfl rfl 1 (by decide) (by decide) (by decide) dX2_areMomentsSound_58 (r_callV hX (c_X1_tell _ _ 12 _ _ _ _ zWd_g1 _ _ _) kv_X2_270 12 zWd_g1 rfl rfl rfl (Nat.le_of_ble_eq_true rfl) ⟨(Nat.le_of_ble_eq_true rfl), (Nat.le_of_ble_eq_true rfl)⟩ ⟨(Nat.le_of_ble_eq_true rfl), (Nat.le_of_ble_eq_true rfl)⟩ dX2_areMomentsSound_59 (fun _ _ z => False.elim z) (fun v9 ws9 h68 => ?_)))))
                            obtain ⟨rfl, hw9⟩ := h68
                            subst ws9
                            dsimp only [mPush]
                            refine r_eqw zWd_t1 (r_aload_n hX dX2_areMomentsSound_62 rfl rfl (r_get hX kf_X2_27 0 rfl rfl dX2_areMomentsSound_63 (r_callS hX (z_X2_numberOf _ _ 12 _ _ _ _ zWd_g1 (by first | with_reducible assumption | decide | omega)) ks_X2_88 rfl rfl (Nat.le_of_ble_eq_true rfl) ⟨(Nat.le_of_ble_eq_true rfl), (Nat.le_of_ble_eq_true rfl)⟩ ⟨(Nat.le_of_ble_eq_true rfl), (Nat.le_of_ble_eq_true rfl)⟩ dX2_areMomentsSound_66 (fun _ _ z => False.elim z) (fun v9 ws9 h69 => ?_))))
                            obtain ⟨rfl, hw9⟩ := h69
                            subst ws9
                            dsimp only [mPush]
                            refine r_lload_n hX dX2_areMomentsSound_69 rfl rfl (r_lif_eqZ (tgt := 76) hX dX2_areMomentsSound_70 dX2_areMomentsSound_71 (by decide) (by first | with_reducible assumption | decide | omega) (by first | with_reducible assumption | decide | omega) (fun c70 => ?_) (fun c70 => ?_))
                            · refine r_iincZ (z := 1) (y := 2) hX dX2_areMomentsSound_76 rfl (by decide) rfl rfl (r_goto (tgt := 21) hX dX2_areMomentsSound_79 (by decide) (r_iload hX dX2_areMomentsSound_21 rfl (r_aload_n hX dX2_areMomentsSound_23 rfl rfl (r_get hX kf_X2_9 0 rfl rfl dX2_areMomentsSound_24 (r_alen (v := iZ 4) hX 1 0 rfl rfl rfl dX2_areMomentsSound_27 (r_icmp_geZ (tgt := 82) hX dX2_areMomentsSound_28 (by decide) (by decide) (by decide) (fun q => absurd q (by decide)) (fun _ => ?_)))))))
                              refine r_aload_n hX dX2_areMomentsSound_31 rfl rfl (r_get hX kf_X2_27 0 rfl rfl dX2_areMomentsSound_32 (r_lload_n hX dX2_areMomentsSound_35 rfl rfl (r_callS hX (z_X2_secondOf _ _ _ (by first | with_reducible assumption | decide | omega)) ks_X2_96 rfl rfl (Nat.le_of_ble_eq_true rfl) ⟨(Nat.le_of_ble_eq_true rfl), (Nat.le_of_ble_eq_true rfl)⟩ ⟨(Nat.le_of_ble_eq_true rfl), (Nat.le_of_ble_eq_true rfl)⟩ dX2_areMomentsSound_36 (fun _ _ z => False.elim z) (fun v9 ws9 h71 => ?_))))
                              obtain ⟨rfl, hw9⟩ := h71
                              subst ws9
                              dsimp only [mPush]
                              refine r_aload_n hX dX2_areMomentsSound_39 rfl rfl (r_get hX kf_X2_9 0 rfl rfl dX2_areMomentsSound_40 (r_iload hX dX2_areMomentsSound_43 rfl (r_ialdZ hX 1 0 rfl rfl 2 (by decide) (by decide) (by decide) dX2_areMomentsSound_45 (r_i2lZ hX dX2_areMomentsSound_46 (by first | with_reducible assumption | decide | omega) (r_laddZ hX dX2_areMomentsSound_47 (r_lload_n hX dX2_areMomentsSound_48 rfl rfl (r_callS hX (z_X2_nanoOf _ _ _ (by first | with_reducible assumption | decide | omega)) ks_X2_92 rfl rfl (Nat.le_of_ble_eq_true rfl) ⟨(Nat.le_of_ble_eq_true rfl), (Nat.le_of_ble_eq_true rfl)⟩ ⟨(Nat.le_of_ble_eq_true rfl), (Nat.le_of_ble_eq_true rfl)⟩ dX2_areMomentsSound_49 (fun _ _ z => False.elim z) (fun v9 ws9 h72 => ?_))))))))
                              obtain ⟨rfl, hw9⟩ := h72
                              subst ws9
                              dsimp only [mPush]
                              refine r_aload_n hX dX2_areMomentsSound_52 rfl rfl (r_get hX kf_X2_9 0 rfl rfl dX2_areMomentsSound_53 (r_iload hX dX2_areMomentsSound_56 rfl (r_ialdZ hX 1 0 rfl rfl 2 (by decide) (by decide) (by decide) dX2_areMomentsSound_58 (r_callV hX (c_X1_tell _ _ 12 _ _ _ _ zWd_g1 _ _ _) kv_X2_270 12 zWd_g1 rfl rfl rfl (Nat.le_of_ble_eq_true rfl) ⟨(Nat.le_of_ble_eq_true rfl), (Nat.le_of_ble_eq_true rfl)⟩ ⟨(Nat.le_of_ble_eq_true rfl), (Nat.le_of_ble_eq_true rfl)⟩ dX2_areMomentsSound_59 (fun _ _ z => False.elim z) (fun v9 ws9 h73 => ?_)))))
                              obtain ⟨rfl, hw9⟩ := h73
                              subst ws9
                              dsimp only [mPush]
                              refine r_eqw zWd_t1 (r_aload_n hX dX2_areMomentsSound_62 rfl rfl (r_get hX kf_X2_27 0 rfl rfl dX2_areMomentsSound_63 (r_callS hX (z_X2_numberOf _ _ 12 _ _ _ _ zWd_g1 (by first | with_reducible assumption | decide | omega)) ks_X2_88 rfl rfl (Nat.le_of_ble_eq_true rfl) ⟨(Nat.le_of_ble_eq_true rfl), (Nat.le_of_ble_eq_true rfl)⟩ ⟨(Nat.le_of_ble_eq_true rfl), (Nat.le_of_ble_eq_true rfl)⟩ dX2_areMomentsSound_66 (fun _ _ z => False.elim z) (fun v9 ws9 h74 => ?_))))
                              obtain ⟨rfl, hw9⟩ := h74
                              subst ws9
                              dsimp only [mPush]
                              refine r_lload_n hX dX2_areMomentsSound_69 rfl rfl (r_lif_eqZ (tgt := 76) hX dX2_areMomentsSound_70 dX2_areMomentsSound_71 (by decide) (by first | with_reducible assumption | decide | omega) (by first | with_reducible assumption | decide | omega) (fun c75 => ?_) (fun c75 => ?_))
                              · refine r_iincZ (z := 1) (y := 3) hX dX2_areMomentsSound_76 rfl (by decide) rfl rfl (r_goto (tgt := 21) hX dX2_areMomentsSound_79 (by decide) (r_iload hX dX2_areMomentsSound_21 rfl (r_aload_n hX dX2_areMomentsSound_23 rfl rfl (r_get hX kf_X2_9 0 rfl rfl dX2_areMomentsSound_24 (r_alen (v := iZ 4) hX 1 0 rfl rfl rfl dX2_areMomentsSound_27 (r_icmp_geZ (tgt := 82) hX dX2_areMomentsSound_28 (by decide) (by decide) (by decide) (fun q => absurd q (by decide)) (fun _ => ?_)))))))
                                refine r_aload_n hX dX2_areMomentsSound_31 rfl rfl (r_get hX kf_X2_27 0 rfl rfl dX2_areMomentsSound_32 (r_lload_n hX dX2_areMomentsSound_35 rfl rfl (r_callS hX (z_X2_secondOf _ _ _ (by first | with_reducible assumption | decide | omega)) ks_X2_96 rfl rfl (Nat.le_of_ble_eq_true rfl) ⟨(Nat.le_of_ble_eq_true rfl), (Nat.le_of_ble_eq_true rfl)⟩ ⟨(Nat.le_of_ble_eq_true rfl), (Nat.le_of_ble_eq_true rfl)⟩ dX2_areMomentsSound_36 (fun _ _ z => False.elim z) (fun v9 ws9 h76 => ?_))))
                                obtain ⟨rfl, hw9⟩ := h76
                                subst ws9
                                dsimp only [mPush]
                                refine r_aload_n hX dX2_areMomentsSound_39 rfl rfl (r_get hX kf_X2_9 0 rfl rfl dX2_areMomentsSound_40 (r_iload hX dX2_areMomentsSound_43 rfl (r_ialdZ hX 1 0 rfl rfl 3 (by decide) (by decide) (by decide) dX2_areMomentsSound_45 (r_i2lZ hX dX2_areMomentsSound_46 (by first | with_reducible assumption | decide | omega) (r_laddZ hX dX2_areMomentsSound_47 (r_lload_n hX dX2_areMomentsSound_48 rfl rfl (r_callS hX (z_X2_nanoOf _ _ _ (by first | with_reducible assumption | decide | omega)) ks_X2_92 rfl rfl (Nat.le_of_ble_eq_true rfl) ⟨(Nat.le_of_ble_eq_true rfl), (Nat.le_of_ble_eq_true rfl)⟩ ⟨(Nat.le_of_ble_eq_true rfl), (Nat.le_of_ble_eq_true rfl)⟩ dX2_areMomentsSound_49 (fun _ _ z => False.elim z) (fun v9 ws9 h77 => ?_))))))))
                                obtain ⟨rfl, hw9⟩ := h77
                                subst ws9
                                dsimp only [mPush]
                                refine r_aload_n hX dX2_areMomentsSound_52 rfl rfl (r_get hX kf_X2_9 0 rfl rfl dX2_areMomentsSound_53 (r_iload hX dX2_areMomentsSound_56 rfl (r_ialdZ hX 1 0 rfl rfl 3 (by decide) (by decide) (by decide) dX2_areMomentsSound_58 (r_callV hX (c_X1_tell _ _ 12 _ _ _ _ zWd_g1 _ _ _) kv_X2_270 12 zWd_g1 rfl rfl rfl (Nat.le_of_ble_eq_true rfl) ⟨(Nat.le_of_ble_eq_true rfl), (Nat.le_of_ble_eq_true rfl)⟩ ⟨(Nat.le_of_ble_eq_true rfl), (Nat.le_of_ble_eq_true rfl)⟩ dX2_areMomentsSound_59 (fun _ _ z => False.elim z) (fun v9 ws9 h78 => ?_)))))
                                obtain ⟨rfl, hw9⟩ := h78
                                subst ws9
                                dsimp only [mPush]
                                refine r_eqw zWd_t1 (r_aload_n hX dX2_areMomentsSound_62 rfl rfl (r_get hX kf_X2_27 0 rfl rfl dX2_areMomentsSound_63 (r_callS hX (z_X2_numberOf _ _ 12 _ _ _ _ zWd_g1 (by first | with_reducible assumption | decide | omega)) ks_X2_88 rfl rfl (Nat.le_of_ble_eq_true rfl) ⟨(Nat.le_of_ble_eq_true rfl), (Nat.le_of_ble_eq_true rfl)⟩ ⟨(Nat.le_of_ble_eq_true rfl), (Nat.le_of_ble_eq_true rfl)⟩ dX2_areMomentsSound_66 (fun _ _ z => False.elim z) (fun v9 ws9 h79 => ?_))))
                                obtain ⟨rfl, hw9⟩ := h79
                                subst ws9
                                dsimp only [mPush]
                                refine r_lload_n hX dX2_areMomentsSound_69 rfl rfl (r_lif_eqZ (tgt := 76) hX dX2_areMomentsSound_70 dX2_areMomentsSound_71 (by decide) (by first | with_reducible assumption | decide | omega) (by first | with_reducible assumption | decide | omega) (fun c80 => ?_) (fun c80 => ?_))
                                · refine r_iincZ (z := 1) (y := 4) hX dX2_areMomentsSound_76 rfl (by decide) rfl rfl (r_goto (tgt := 21) hX dX2_areMomentsSound_79 (by decide) (r_iload hX dX2_areMomentsSound_21 rfl (r_aload_n hX dX2_areMomentsSound_23 rfl rfl (r_get hX kf_X2_9 0 rfl rfl dX2_areMomentsSound_24 (r_alen (v := iZ 4) hX 1 0 rfl rfl rfl dX2_areMomentsSound_27 (r_icmp_geZ (tgt := 82) hX dX2_areMomentsSound_28 (by decide) (by decide) (by decide) (fun _ => ?_) (fun q => absurd (by decide) q)))))))
                                  refine r_iincZ (z := 1) (y := 4) hX dX2_areMomentsSound_82 rfl (by decide) rfl rfl (r_goto (tgt := 2) hX dX2_areMomentsSound_85 (by decide) (r_iload_n hX dX2_areMomentsSound_2 rfl rfl (r_aload_n hX dX2_areMomentsSound_3 rfl rfl (r_get hX kf_X2_13 0 rfl rfl dX2_areMomentsSound_4 (r_alen (v := iZ 4) hX 2 1 rfl rfl rfl dX2_areMomentsSound_7 (r_icmp_geZ (tgt := 88) hX dX2_areMomentsSound_8 (by decide) (by decide) (by decide) (fun _ => ?_) (fun q => absurd (by decide) q)))))))
                                  refine r_iconstZ hX dX2_areMomentsSound_88 ?_
                                  exact r_zret hX hE dX2_areMomentsSound_89 (by decide) (Nat.le_of_ble_eq_true rfl) (Nat.le_of_ble_eq_true rfl) ⟨rfl, _, rfl⟩
                                · refine r_iconstZ hX dX2_areMomentsSound_74 ?_
                                  exfalso
                                  omega
                              · refine r_iconstZ hX dX2_areMomentsSound_74 ?_
                                exfalso
                                omega
                            · refine r_iconstZ hX dX2_areMomentsSound_74 ?_
                              exfalso
                              omega
                          · refine r_iconstZ hX dX2_areMomentsSound_74 ?_
                            exfalso
                            omega
                        · refine r_iconstZ hX dX2_areMomentsSound_74 ?_
                          exfalso
                          omega
                      · refine r_iconstZ hX dX2_areMomentsSound_74 ?_
                        exfalso
                        omega
                    · refine r_iconstZ hX dX2_areMomentsSound_74 ?_
                      exfalso
                      omega
                  · refine r_iconstZ hX dX2_areMomentsSound_74 ?_
                    exfalso
                    omega
                · refine r_iconstZ hX dX2_areMomentsSound_74 ?_
                  exfalso
                  omega
              · refine r_iconstZ hX dX2_areMomentsSound_74 ?_
                exfalso
                omega
            · refine r_iconstZ hX dX2_areMomentsSound_74 ?_
              exfalso
              omega
          · refine r_iconstZ hX dX2_areMomentsSound_74 ?_
            exfalso
            omega
        · refine r_iconstZ hX dX2_areMomentsSound_74 ?_
          exfalso
          omega
      · refine r_iconstZ hX dX2_areMomentsSound_74 ?_
        exfalso
        omega
    · refine r_iconstZ hX dX2_areMomentsSound_74 ?_
      exfalso
      omega
  · refine r_iconstZ hX dX2_areMomentsSound_74 ?_
    exfalso
    omega
set_option maxHeartbeats 4000000 in
set_option maxRecDepth 20000 in
theorem z_X2_isToldAnewSound (ad : Nat → Nat) (cs : ClassId × ClassId × ClassId) (S : mS) (T : mT2) (rest : va_W) (hS : sWF S) (d : Nat) (hd : d < 7) (h : Int) (hh : -64800 ≤ h ∧ h ≤ 64800)  : mCt (mTy cs) yX2_isToldAnewSound cX2_isToldAnewSound 6 (some .boolean) ⟨2, 0, 0, 41⟩ [.ref (ad 0), .ref (ad (d + 5)), .int (iZ h)] (mWd ad cs (mKof S T) rest) (fun v ws' => v = some (.int (b2i true)) ∧ ∃ T' : mT2, ws' = mWd ad cs (mKof S T') rest) mNo := by
  refine mCt.of (by decide +kernel) (Nat.le_of_ble_eq_true rfl) (fun X hX hE => ?_)
  replace hX : mOK X RX2 cX2_isToldAnewSound 6 ⟨2, 0, 0, 41⟩ [] (mTy cs) := hX
  have hr := zrg hS hd
  refine r_aload_n hX dX2_isToldAnewSound_0 rfl rfl (r_callV hX (z_X1_momentSecond _ _ (d + 5) _ _ _ _ (zWd_loc (d := d) hd) (zrg hS hd)) kv_X2_169 (d + 5) (zWd_loc (d := d) hd) rfl rfl rfl (Nat.le_of_ble_eq_true rfl) ⟨(Nat.le_of_ble_eq_true rfl), (Nat.le_of_ble_eq_true rfl)⟩ ⟨(Nat.le_of_ble_eq_true rfl), (Nat.le_of_ble_eq_true rfl)⟩ dX2_isToldAnewSound_1 (fun _ _ z => False.elim z) (fun v9 ws9 h1 => ?_))
  obtain ⟨rfl, hw9⟩ := h1
  subst ws9
  dsimp only [mPush]
  refine r_iload_n hX dX2_isToldAnewSound_4 rfl rfl (r_i2lZ hX dX2_isToldAnewSound_5 (by first | with_reducible assumption | decide | omega) (r_laddZ hX dX2_isToldAnewSound_6 (r_lstore_n hX dX2_isToldAnewSound_7 rfl (by decide) rfl (r_lload_n hX dX2_isToldAnewSound_8 rfl rfl (r_ldc2Z (z := -1893456000) hX kc_X2_266 (by decide +kernel) dX2_isToldAnewSound_9 (r_ldc2Z (z := 1924991999) hX kc_X2_268 (by decide +kernel) dX2_isToldAnewSound_12 (r_callS hX (z_X2_isWithin _ _ _ _ _ (by first | with_reducible assumption | decide | omega) (by first | with_reducible assumption | decide | omega) (by first | with_reducible assumption | decide | omega)) ks_X2_48 rfl rfl (Nat.le_of_ble_eq_true rfl) ⟨(Nat.le_of_ble_eq_true rfl), (Nat.le_of_ble_eq_true rfl)⟩ ⟨(Nat.le_of_ble_eq_true rfl), (Nat.le_of_ble_eq_true rfl)⟩ dX2_isToldAnewSound_15 (fun _ _ z => False.elim z) (fun v9 ws9 h2 => ?_))))))))
  obtain ⟨rfl, hw9⟩ := h2
  subst ws9
  dsimp only [mPush]
  refine r_if_neB (tgt := 23) hX dX2_isToldAnewSound_18 (by decide) (fun c3 => ?_) (fun c3 => ?_)
  · have c3 := of_decide_eq_true c3
    refine r_aload_n hX dX2_isToldAnewSound_23 rfl rfl (r_get hX kf_X2_27 0 rfl rfl dX2_isToldAnewSound_24 (r_lload_n hX dX2_isToldAnewSound_27 rfl rfl (r_aload_n hX dX2_isToldAnewSound_28 rfl rfl (r_getN hX kg_X2_172 (d + 5) (zWd_loc (d := d) hd) rfl dX2_isToldAnewSound_29 (r_iload_n hX dX2_isToldAnewSound_32 rfl rfl (r_callV hX (c_X1_tell _ _ 12 _ _ _ _ zWd_h1 _ _ _) kv_X2_270 12 zWd_h1 rfl rfl rfl (Nat.le_of_ble_eq_true rfl) ⟨(Nat.le_of_ble_eq_true rfl), (Nat.le_of_ble_eq_true rfl)⟩ ⟨(Nat.le_of_ble_eq_true rfl), (Nat.le_of_ble_eq_true rfl)⟩ dX2_isToldAnewSound_33 (fun _ _ z => False.elim z) (fun v9 ws9 h4 => ?_)))))))
    obtain ⟨rfl, hw9⟩ := h4
    subst ws9
    dsimp only [mPush]
    refine r_eqw zWd_t1 (r_aload_n hX dX2_isToldAnewSound_36 rfl rfl (r_get hX kf_X2_27 0 rfl rfl dX2_isToldAnewSound_37 (r_aload_n hX dX2_isToldAnewSound_40 rfl rfl (r_callV hX (z_X1_isAlike _ _ 12 _ _ _ _ zWd_g1 (by first | with_reducible assumption | decide | omega) (d + 5) _ _ _ _ (zWd_loc (d := d) hd) (zrg hS hd)) kv_X2_360 12 zWd_g1 rfl rfl rfl (Nat.le_of_ble_eq_true rfl) ⟨(Nat.le_of_ble_eq_true rfl), (Nat.le_of_ble_eq_true rfl)⟩ ⟨(Nat.le_of_ble_eq_true rfl), (Nat.le_of_ble_eq_true rfl)⟩ dX2_isToldAnewSound_41 (fun _ _ z => False.elim z) (fun v9 ws9 h5 => ?_)))))
    obtain ⟨rfl, hw9⟩ := h5
    subst ws9
    dsimp only [mPush]
    refine r_istore hX dX2_isToldAnewSound_44 (by decide) rfl (r_aload_n hX dX2_isToldAnewSound_46 rfl rfl (r_get hX kf_X2_27 0 rfl rfl dX2_isToldAnewSound_47 (r_aload_n hX dX2_isToldAnewSound_50 rfl rfl (r_get hX kf_X2_27 0 rfl rfl dX2_isToldAnewSound_51 (r_callV hX (z_X1_momentSecond _ _ 12 _ _ _ _ zWd_g1 (by first | with_reducible assumption | decide | omega)) kv_X2_169 12 zWd_g1 rfl rfl rfl (Nat.le_of_ble_eq_true rfl) ⟨(Nat.le_of_ble_eq_true rfl), (Nat.le_of_ble_eq_true rfl)⟩ ⟨(Nat.le_of_ble_eq_true rfl), (Nat.le_of_ble_eq_true rfl)⟩ dX2_isToldAnewSound_54 (fun _ _ z => False.elim z) (fun v9 ws9 h6 => ?_))))))
    obtain ⟨rfl, hw9⟩ := h6
    subst ws9
    dsimp only [mPush]
    refine r_aload_n hX dX2_isToldAnewSound_57 rfl rfl (r_getN hX kg_X2_158 (d + 5) (zWd_loc (d := d) hd) rfl dX2_isToldAnewSound_58 (r_i2lZ hX dX2_isToldAnewSound_61 (by first | with_reducible assumption | decide | omega) (r_laddZ hX dX2_isToldAnewSound_62 (r_aload_n hX dX2_isToldAnewSound_63 rfl rfl (r_get hX kf_X2_27 0 rfl rfl dX2_isToldAnewSound_64 (r_getN hX kg_X2_172 12 zWd_g1 rfl dX2_isToldAnewSound_67 (r_aload_n hX dX2_isToldAnewSound_70 rfl rfl ?_)))))))
    refine r_getN hX kg_X2_158 (d + 5) (zWd_loc (d := d) hd) rfl dX2_isToldAnewSound_71 (r_callV hX (c_X1_tell _ _ 12 _ _ _ _ zWd_g1 _ _ _) kv_X2_270 12 zWd_g1 rfl rfl rfl (Nat.le_of_ble_eq_true rfl) ⟨(Nat.le_of_ble_eq_true rfl), (Nat.le_of_ble_eq_true rfl)⟩ ⟨(Nat.le_of_ble_eq_true rfl), (Nat.le_of_ble_eq_true rfl)⟩ dX2_isToldAnewSound_74 (fun _ _ z => False.elim z) (fun v9 ws9 h7 => ?_))
    obtain ⟨rfl, hw9⟩ := h7
    subst ws9
    dsimp only [mPush]
    refine r_eqw zWd_t1 (r_iload hX dX2_isToldAnewSound_77 rfl (r_if_eqB (tgt := 97) hX dX2_isToldAnewSound_79 (by decide) (fun c8 => ?_) (fun c8 => ?_)))
    · have c8 := of_decide_eq_false c8
      refine r_iconstZ hX dX2_isToldAnewSound_97 ?_
      exfalso
      omega
    · have c8 := of_decide_eq_true c8
      refine r_aload_n hX dX2_isToldAnewSound_82 rfl rfl (r_get hX kf_X2_27 0 rfl rfl dX2_isToldAnewSound_83 (r_aload_n hX dX2_isToldAnewSound_86 rfl rfl (r_callV hX (z_X1_isSame _ _ 12 _ _ _ _ zWd_g1 (by first | with_reducible assumption | decide | omega) (d + 5) _ _ _ _ (zWd_loc (d := d) hd) (zrg hS hd)) kv_X2_363 12 zWd_g1 rfl rfl rfl (Nat.le_of_ble_eq_true rfl) ⟨(Nat.le_of_ble_eq_true rfl), (Nat.le_of_ble_eq_true rfl)⟩ ⟨(Nat.le_of_ble_eq_true rfl), (Nat.le_of_ble_eq_true rfl)⟩ dX2_isToldAnewSound_87 (fun _ _ z => False.elim z) (fun v9 ws9 h9 => ?_))))
      obtain ⟨rfl, hw9⟩ := h9
      subst ws9
      dsimp only [mPush]
      refine r_if_eqB (tgt := 97) hX dX2_isToldAnewSound_90 (by decide) (fun c10 => ?_) (fun c10 => ?_)
      · have c10 := of_decide_eq_false c10
        refine r_iconstZ hX dX2_isToldAnewSound_97 ?_
        exfalso
        omega
      · have c10 := of_decide_eq_true c10
        refine r_iconstZ hX dX2_isToldAnewSound_93 (r_goto (tgt := 98) hX dX2_isToldAnewSound_94 (by decide) ?_)
        exact r_zret hX hE dX2_isToldAnewSound_98 (by decide) (Nat.le_of_ble_eq_true rfl) (Nat.le_of_ble_eq_true rfl) ⟨rfl, _, rfl⟩
  · have c3 := of_decide_eq_false c3
    refine r_iconstZ hX dX2_isToldAnewSound_21 ?_
    exact r_zret hX hE dX2_isToldAnewSound_22 (by decide) (Nat.le_of_ble_eq_true rfl) (Nat.le_of_ble_eq_true rfl) ⟨rfl, _, rfl⟩
set_option maxHeartbeats 4000000 in
set_option maxRecDepth 20000 in
theorem z_X2_isPairSound (tys : List (ClassId × FieldType)) (ws : va_W) (q0 a0 : Nat) (s0 n0 o0 : Int) (h0 : ws[q0]? = some (a0, .inr (2, [.long (lZ s0), .int (iZ n0), .int (iZ o0)]))) (r0 : ((-100000000000 ≤ s0 ∧ s0 ≤ 100000000000) ∧ (0 ≤ n0 ∧ n0 ≤ 999999999) ∧ (-64800 ≤ o0 ∧ o0 ≤ 64800))) (q1 a1 : Nat) (s1 n1 o1 : Int) (h1 : ws[q1]? = some (a1, .inr (2, [.long (lZ s1), .int (iZ n1), .int (iZ o1)]))) (r1 : ((-100000000000 ≤ s1 ∧ s1 ≤ 100000000000) ∧ (0 ≤ n1 ∧ n1 ≤ 999999999) ∧ (-64800 ≤ o1 ∧ o1 ≤ 64800)))  : mCt tys yX2_isPairSound cX2_isPairSound 4 (some .boolean) ⟨3, 0, 0, 67⟩ [.ref a0, .ref a1] ws (fun v ws' => v = some (.int (b2i true)) ∧ ws' = ws) mNo := by
  refine mCt.of (by decide +kernel) (Nat.le_of_ble_eq_true rfl) (fun X hX hE => ?_)
  replace hX : mOK X RX2 cX2_isPairSound 4 ⟨3, 0, 0, 67⟩ [] tys := hX
  have p1 := zMo_s s0 n0 o0 s1 n1 o1
  have p2 := zMo_s s1 n1 o1 s0 n0 o0
  have p3 := zTo_s s0 n0 o0 s1 n1 o1
  have p4 := zTo_s s1 n1 o1 s0 n0 o0
  have p5 := cmpZ_s s0 s1
  have p6 := cmpZ_s s1 s0
  refine r_aload_n hX dX2_isPairSound_0 rfl rfl (r_aload_n hX dX2_isPairSound_1 rfl rfl (r_callV hX (z_X1_isAhead _ _ q0 _ _ _ _ h0 r0 q1 _ _ _ _ h1 r1) kv_X2_356 q0 h0 rfl rfl rfl (Nat.le_of_ble_eq_true rfl) ⟨(Nat.le_of_ble_eq_true rfl), (Nat.le_of_ble_eq_true rfl)⟩ ⟨(Nat.le_of_ble_eq_true rfl), (Nat.le_of_ble_eq_true rfl)⟩ dX2_isPairSound_2 (fun _ _ z => False.elim z) (fun v9 ws9 h1 => ?_)))
  obtain ⟨rfl, hw9⟩ := h1
  subst ws9
  dsimp only [mPush]
  refine r_if_neB (tgt := 20) hX dX2_isPairSound_5 (by decide) (fun c2 => ?_) (fun c2 => ?_)
  · have c2 := of_decide_eq_true c2
    refine r_iconstZ hX dX2_isPairSound_20 (r_istore_n hX dX2_isPairSound_21 rfl (by decide) rfl (r_aload_n hX dX2_isPairSound_22 rfl rfl (r_aload_n hX dX2_isPairSound_23 rfl rfl (r_callV hX (z_X1_orderTo _ _ q0 _ _ _ _ h0 r0 q1 _ _ _ _ h1 r1) kv_X2_179 q0 h0 rfl rfl rfl (Nat.le_of_ble_eq_true rfl) ⟨(Nat.le_of_ble_eq_true rfl), (Nat.le_of_ble_eq_true rfl)⟩ ⟨(Nat.le_of_ble_eq_true rfl), (Nat.le_of_ble_eq_true rfl)⟩ dX2_isPairSound_24 (fun _ _ z => False.elim z) (fun v9 ws9 h3 => ?_)))))
    obtain ⟨rfl, hw9⟩ := h3
    subst ws9
    dsimp only [mPush]
    have hb3 := zTo_b s0 n0 o0 s1 n1 o1
    refine r_istore_n hX dX2_isPairSound_27 rfl (by decide) rfl (r_aload_n hX dX2_isPairSound_28 rfl rfl (r_aload_n hX dX2_isPairSound_29 rfl rfl (r_callV hX (z_X1_isAlike _ _ q0 _ _ _ _ h0 r0 q1 _ _ _ _ h1 r1) kv_X2_360 q0 h0 rfl rfl rfl (Nat.le_of_ble_eq_true rfl) ⟨(Nat.le_of_ble_eq_true rfl), (Nat.le_of_ble_eq_true rfl)⟩ ⟨(Nat.le_of_ble_eq_true rfl), (Nat.le_of_ble_eq_true rfl)⟩ dX2_isPairSound_30 (fun _ _ z => False.elim z) (fun v9 ws9 h4 => ?_))))
    obtain ⟨rfl, hw9⟩ := h4
    subst ws9
    dsimp only [mPush]
    refine r_iload_n hX dX2_isPairSound_33 rfl rfl (r_icmp_neB0 (tgt := 63) hX dX2_isPairSound_34 (by decide) (fun c5 => ?_) (fun c5 => ?_))
    · have c5 := of_decide_eq_true c5
      refine r_iconstZ hX dX2_isPairSound_63 ?_
      exfalso
      omega
    · have c5 := of_decide_eq_false c5
      refine r_iload_n hX dX2_isPairSound_37 rfl rfl (r_aload_n hX dX2_isPairSound_38 rfl rfl (r_aload_n hX dX2_isPairSound_39 rfl rfl (r_callV hX (z_X1_orderTo _ _ q1 _ _ _ _ h1 r1 q0 _ _ _ _ h0 r0) kv_X2_179 q1 h1 rfl rfl rfl (Nat.le_of_ble_eq_true rfl) ⟨(Nat.le_of_ble_eq_true rfl), (Nat.le_of_ble_eq_true rfl)⟩ ⟨(Nat.le_of_ble_eq_true rfl), (Nat.le_of_ble_eq_true rfl)⟩ dX2_isPairSound_40 (fun _ _ z => False.elim z) (fun v9 ws9 h6 => ?_))))
      obtain ⟨rfl, hw9⟩ := h6
      subst ws9
      dsimp only [mPush]
      have hb6 := zTo_b s1 n1 o1 s0 n0 o0
      refine r_inegZ hX dX2_isPairSound_43 (r_icmp_neZ (tgt := 63) hX dX2_isPairSound_44 (by decide) (by first | with_reducible assumption | decide | omega) (by first | with_reducible assumption | decide | omega) (fun c7 => ?_) (fun c7 => ?_))
      · refine r_iconstZ hX dX2_isPairSound_63 ?_
        exfalso
        omega
      · refine r_aload_n hX dX2_isPairSound_47 rfl rfl (r_aload_n hX dX2_isPairSound_48 rfl rfl (r_callV hX (z_X1_isSame _ _ q0 _ _ _ _ h0 r0 q1 _ _ _ _ h1 r1) kv_X2_363 q0 h0 rfl rfl rfl (Nat.le_of_ble_eq_true rfl) ⟨(Nat.le_of_ble_eq_true rfl), (Nat.le_of_ble_eq_true rfl)⟩ ⟨(Nat.le_of_ble_eq_true rfl), (Nat.le_of_ble_eq_true rfl)⟩ dX2_isPairSound_49 (fun _ _ z => False.elim z) (fun v9 ws9 h8 => ?_)))
        obtain ⟨rfl, hw9⟩ := h8
        subst ws9
        dsimp only [mPush]
        refine r_if_eqB (tgt := 59) hX dX2_isPairSound_52 (by decide) (fun c9 => ?_) (fun c9 => ?_)
        · have c9 := of_decide_eq_false c9
          refine r_iconstZ hX dX2_isPairSound_59 (r_goto (tgt := 64) hX dX2_isPairSound_60 (by decide) ?_)
          exact r_zret hX hE dX2_isPairSound_64 (by decide) (Nat.le_of_ble_eq_true rfl) (Nat.le_of_ble_eq_true rfl) ⟨rfl, rfl⟩
        · have c9 := of_decide_eq_true c9
          refine r_iload_n hX dX2_isPairSound_55 rfl rfl (r_if_neZ (tgt := 63) hX dX2_isPairSound_56 (by decide) (by first | with_reducible assumption | decide | omega) (fun c10 => ?_) (fun c10 => ?_))
          · refine r_iconstZ hX dX2_isPairSound_63 ?_
            exfalso
            omega
          · refine r_iconstZ hX dX2_isPairSound_59 (r_goto (tgt := 64) hX dX2_isPairSound_60 (by decide) ?_)
            exact r_zret hX hE dX2_isPairSound_64 (by decide) (Nat.le_of_ble_eq_true rfl) (Nat.le_of_ble_eq_true rfl) ⟨rfl, rfl⟩
  · have c2 := of_decide_eq_false c2
    refine r_aload_n hX dX2_isPairSound_8 rfl rfl (r_aload_n hX dX2_isPairSound_9 rfl rfl (r_callV hX (z_X1_isAhead _ _ q1 _ _ _ _ h1 r1 q0 _ _ _ _ h0 r0) kv_X2_356 q1 h1 rfl rfl rfl (Nat.le_of_ble_eq_true rfl) ⟨(Nat.le_of_ble_eq_true rfl), (Nat.le_of_ble_eq_true rfl)⟩ ⟨(Nat.le_of_ble_eq_true rfl), (Nat.le_of_ble_eq_true rfl)⟩ dX2_isPairSound_10 (fun _ _ z => False.elim z) (fun v9 ws9 h11 => ?_)))
    obtain ⟨rfl, hw9⟩ := h11
    subst ws9
    dsimp only [mPush]
    refine r_if_neB (tgt := 20) hX dX2_isPairSound_13 (by decide) (fun c12 => ?_) (fun c12 => ?_)
    · have c12 := of_decide_eq_true c12
      refine r_iconstZ hX dX2_isPairSound_20 (r_istore_n hX dX2_isPairSound_21 rfl (by decide) rfl (r_aload_n hX dX2_isPairSound_22 rfl rfl (r_aload_n hX dX2_isPairSound_23 rfl rfl (r_callV hX (z_X1_orderTo _ _ q0 _ _ _ _ h0 r0 q1 _ _ _ _ h1 r1) kv_X2_179 q0 h0 rfl rfl rfl (Nat.le_of_ble_eq_true rfl) ⟨(Nat.le_of_ble_eq_true rfl), (Nat.le_of_ble_eq_true rfl)⟩ ⟨(Nat.le_of_ble_eq_true rfl), (Nat.le_of_ble_eq_true rfl)⟩ dX2_isPairSound_24 (fun _ _ z => False.elim z) (fun v9 ws9 h13 => ?_)))))
      obtain ⟨rfl, hw9⟩ := h13
      subst ws9
      dsimp only [mPush]
      have hb13 := zTo_b s0 n0 o0 s1 n1 o1
      refine r_istore_n hX dX2_isPairSound_27 rfl (by decide) rfl (r_aload_n hX dX2_isPairSound_28 rfl rfl (r_aload_n hX dX2_isPairSound_29 rfl rfl (r_callV hX (z_X1_isAlike _ _ q0 _ _ _ _ h0 r0 q1 _ _ _ _ h1 r1) kv_X2_360 q0 h0 rfl rfl rfl (Nat.le_of_ble_eq_true rfl) ⟨(Nat.le_of_ble_eq_true rfl), (Nat.le_of_ble_eq_true rfl)⟩ ⟨(Nat.le_of_ble_eq_true rfl), (Nat.le_of_ble_eq_true rfl)⟩ dX2_isPairSound_30 (fun _ _ z => False.elim z) (fun v9 ws9 h14 => ?_))))
      obtain ⟨rfl, hw9⟩ := h14
      subst ws9
      dsimp only [mPush]
      refine r_iload_n hX dX2_isPairSound_33 rfl rfl (r_icmp_neB0 (tgt := 63) hX dX2_isPairSound_34 (by decide) (fun c15 => ?_) (fun c15 => ?_))
      · have c15 := of_decide_eq_true c15
        refine r_iconstZ hX dX2_isPairSound_63 ?_
        exfalso
        omega
      · have c15 := of_decide_eq_false c15
        refine r_iload_n hX dX2_isPairSound_37 rfl rfl (r_aload_n hX dX2_isPairSound_38 rfl rfl (r_aload_n hX dX2_isPairSound_39 rfl rfl (r_callV hX (z_X1_orderTo _ _ q1 _ _ _ _ h1 r1 q0 _ _ _ _ h0 r0) kv_X2_179 q1 h1 rfl rfl rfl (Nat.le_of_ble_eq_true rfl) ⟨(Nat.le_of_ble_eq_true rfl), (Nat.le_of_ble_eq_true rfl)⟩ ⟨(Nat.le_of_ble_eq_true rfl), (Nat.le_of_ble_eq_true rfl)⟩ dX2_isPairSound_40 (fun _ _ z => False.elim z) (fun v9 ws9 h16 => ?_))))
        obtain ⟨rfl, hw9⟩ := h16
        subst ws9
        dsimp only [mPush]
        have hb16 := zTo_b s1 n1 o1 s0 n0 o0
        refine r_inegZ hX dX2_isPairSound_43 (r_icmp_neZ (tgt := 63) hX dX2_isPairSound_44 (by decide) (by first | with_reducible assumption | decide | omega) (by first | with_reducible assumption | decide | omega) (fun c17 => ?_) (fun c17 => ?_))
        · refine r_iconstZ hX dX2_isPairSound_63 ?_
          exfalso
          omega
        · refine r_aload_n hX dX2_isPairSound_47 rfl rfl (r_aload_n hX dX2_isPairSound_48 rfl rfl (r_callV hX (z_X1_isSame _ _ q0 _ _ _ _ h0 r0 q1 _ _ _ _ h1 r1) kv_X2_363 q0 h0 rfl rfl rfl (Nat.le_of_ble_eq_true rfl) ⟨(Nat.le_of_ble_eq_true rfl), (Nat.le_of_ble_eq_true rfl)⟩ ⟨(Nat.le_of_ble_eq_true rfl), (Nat.le_of_ble_eq_true rfl)⟩ dX2_isPairSound_49 (fun _ _ z => False.elim z) (fun v9 ws9 h18 => ?_)))
          obtain ⟨rfl, hw9⟩ := h18
          subst ws9
          dsimp only [mPush]
          refine r_if_eqB (tgt := 59) hX dX2_isPairSound_52 (by decide) (fun c19 => ?_) (fun c19 => ?_)
          · have c19 := of_decide_eq_false c19
            refine r_iconstZ hX dX2_isPairSound_59 (r_goto (tgt := 64) hX dX2_isPairSound_60 (by decide) ?_)
            exact r_zret hX hE dX2_isPairSound_64 (by decide) (Nat.le_of_ble_eq_true rfl) (Nat.le_of_ble_eq_true rfl) ⟨rfl, rfl⟩
          · have c19 := of_decide_eq_true c19
            refine r_iload_n hX dX2_isPairSound_55 rfl rfl (r_if_neZ (tgt := 63) hX dX2_isPairSound_56 (by decide) (by first | with_reducible assumption | decide | omega) (fun c20 => ?_) (fun c20 => ?_))
            · refine r_iconstZ hX dX2_isPairSound_63 ?_
              exfalso
              omega
            · refine r_iconstZ hX dX2_isPairSound_59 (r_goto (tgt := 64) hX dX2_isPairSound_60 (by decide) ?_)
              exact r_zret hX hE dX2_isPairSound_64 (by decide) (Nat.le_of_ble_eq_true rfl) (Nat.le_of_ble_eq_true rfl) ⟨rfl, rfl⟩
    · have c12 := of_decide_eq_false c12
      refine r_iconstZ hX dX2_isPairSound_16 (r_goto (tgt := 21) hX dX2_isPairSound_17 (by decide) (r_istore_n hX dX2_isPairSound_21 rfl (by decide) rfl (r_aload_n hX dX2_isPairSound_22 rfl rfl (r_aload_n hX dX2_isPairSound_23 rfl rfl (r_callV hX (z_X1_orderTo _ _ q0 _ _ _ _ h0 r0 q1 _ _ _ _ h1 r1) kv_X2_179 q0 h0 rfl rfl rfl (Nat.le_of_ble_eq_true rfl) ⟨(Nat.le_of_ble_eq_true rfl), (Nat.le_of_ble_eq_true rfl)⟩ ⟨(Nat.le_of_ble_eq_true rfl), (Nat.le_of_ble_eq_true rfl)⟩ dX2_isPairSound_24 (fun _ _ z => False.elim z) (fun v9 ws9 h21 => ?_))))))
      obtain ⟨rfl, hw9⟩ := h21
      subst ws9
      dsimp only [mPush]
      have hb21 := zTo_b s0 n0 o0 s1 n1 o1
      refine r_istore_n hX dX2_isPairSound_27 rfl (by decide) rfl (r_aload_n hX dX2_isPairSound_28 rfl rfl (r_aload_n hX dX2_isPairSound_29 rfl rfl (r_callV hX (z_X1_isAlike _ _ q0 _ _ _ _ h0 r0 q1 _ _ _ _ h1 r1) kv_X2_360 q0 h0 rfl rfl rfl (Nat.le_of_ble_eq_true rfl) ⟨(Nat.le_of_ble_eq_true rfl), (Nat.le_of_ble_eq_true rfl)⟩ ⟨(Nat.le_of_ble_eq_true rfl), (Nat.le_of_ble_eq_true rfl)⟩ dX2_isPairSound_30 (fun _ _ z => False.elim z) (fun v9 ws9 h22 => ?_))))
      obtain ⟨rfl, hw9⟩ := h22
      subst ws9
      dsimp only [mPush]
      refine r_iload_n hX dX2_isPairSound_33 rfl rfl (r_icmp_neB1 (tgt := 63) hX dX2_isPairSound_34 (by decide) (fun c23 => ?_) (fun c23 => ?_))
      · have c23 := of_decide_eq_false c23
        refine r_iconstZ hX dX2_isPairSound_63 ?_
        exfalso
        omega
      · have c23 := of_decide_eq_true c23
        refine r_iload_n hX dX2_isPairSound_37 rfl rfl (r_aload_n hX dX2_isPairSound_38 rfl rfl (r_aload_n hX dX2_isPairSound_39 rfl rfl (r_callV hX (z_X1_orderTo _ _ q1 _ _ _ _ h1 r1 q0 _ _ _ _ h0 r0) kv_X2_179 q1 h1 rfl rfl rfl (Nat.le_of_ble_eq_true rfl) ⟨(Nat.le_of_ble_eq_true rfl), (Nat.le_of_ble_eq_true rfl)⟩ ⟨(Nat.le_of_ble_eq_true rfl), (Nat.le_of_ble_eq_true rfl)⟩ dX2_isPairSound_40 (fun _ _ z => False.elim z) (fun v9 ws9 h24 => ?_))))
        obtain ⟨rfl, hw9⟩ := h24
        subst ws9
        dsimp only [mPush]
        have hb24 := zTo_b s1 n1 o1 s0 n0 o0
        refine r_inegZ hX dX2_isPairSound_43 (r_icmp_neZ (tgt := 63) hX dX2_isPairSound_44 (by decide) (by first | with_reducible assumption | decide | omega) (by first | with_reducible assumption | decide | omega) (fun c25 => ?_) (fun c25 => ?_))
        · refine r_iconstZ hX dX2_isPairSound_63 ?_
          exfalso
          omega
        · refine r_aload_n hX dX2_isPairSound_47 rfl rfl (r_aload_n hX dX2_isPairSound_48 rfl rfl (r_callV hX (z_X1_isSame _ _ q0 _ _ _ _ h0 r0 q1 _ _ _ _ h1 r1) kv_X2_363 q0 h0 rfl rfl rfl (Nat.le_of_ble_eq_true rfl) ⟨(Nat.le_of_ble_eq_true rfl), (Nat.le_of_ble_eq_true rfl)⟩ ⟨(Nat.le_of_ble_eq_true rfl), (Nat.le_of_ble_eq_true rfl)⟩ dX2_isPairSound_49 (fun _ _ z => False.elim z) (fun v9 ws9 h26 => ?_)))
          obtain ⟨rfl, hw9⟩ := h26
          subst ws9
          dsimp only [mPush]
          refine r_if_eqB (tgt := 59) hX dX2_isPairSound_52 (by decide) (fun c27 => ?_) (fun c27 => ?_)
          · have c27 := of_decide_eq_false c27
            refine r_iconstZ hX dX2_isPairSound_59 (r_goto (tgt := 64) hX dX2_isPairSound_60 (by decide) ?_)
            exact r_zret hX hE dX2_isPairSound_64 (by decide) (Nat.le_of_ble_eq_true rfl) (Nat.le_of_ble_eq_true rfl) ⟨rfl, rfl⟩
          · have c27 := of_decide_eq_true c27
            refine r_iload_n hX dX2_isPairSound_55 rfl rfl (r_if_neZ (tgt := 63) hX dX2_isPairSound_56 (by decide) (by first | with_reducible assumption | decide | omega) (fun c28 => ?_) (fun c28 => ?_))
            · refine r_iconstZ hX dX2_isPairSound_63 ?_
              exfalso
              omega
            · refine r_iconstZ hX dX2_isPairSound_59 (r_goto (tgt := 64) hX dX2_isPairSound_60 (by decide) ?_)
              exact r_zret hX hE dX2_isPairSound_64 (by decide) (Nat.le_of_ble_eq_true rfl) (Nat.le_of_ble_eq_true rfl) ⟨rfl, rfl⟩
end
-- 6c zsnd
section
/-! The class, exact (rows by a program of this repository). -/
set_option maxHeartbeats 4000000 in
set_option maxRecDepth 20000 in
theorem z_X2_areDatesToldAnewSound (ad : Nat → Nat) (cs : ClassId × ClassId × ClassId) (S : mS) (T : mT2) (rest : va_W) (hS : sWF S)  : mCt (mTy cs) yX2_areDatesToldAnewSound cX2_areDatesToldAnewSound 3 (some .boolean) ⟨3, 0, 0, 66⟩ [.ref (ad 0)] (mWd ad cs (mKof S T) rest) (fun v ws' => v = some (.int (b2i true)) ∧ ∃ T' : mT2, ws' = mWd ad cs (mKof S T') rest) mNo := by
  refine mCt.of (by decide +kernel) (Nat.le_of_ble_eq_true rfl) (fun X hX hE => ?_)
  replace hX : mOK X RX2 cX2_areDatesToldAnewSound 3 ⟨3, 0, 0, 66⟩ [] (mTy cs) := hX
  have hn0 := hS.2.1 0 (by decide)
  have hn1 := hS.2.1 1 (by decide)
  have hn2 := hS.2.1 2 (by decide)
  have hn3 := hS.2.1 3 (by decide)
  have ho0 := hS.1 0 (by decide)
  have ho1 := hS.1 1 (by decide)
  have ho2 := hS.1 2 (by decide)
  have ho3 := hS.1 3 (by decide)
  refine r_iconstZ hX dX2_areDatesToldAnewSound_0 (r_istore_n hX dX2_areDatesToldAnewSound_1 rfl (by decide) rfl (r_iload_n hX dX2_areDatesToldAnewSound_2 rfl rfl (r_aload_n hX dX2_areDatesToldAnewSound_3 rfl rfl (r_get hX kf_X2_20 0 rfl rfl dX2_areDatesToldAnewSound_4 (r_alen (v := iZ 4) hX 3 2 rfl rfl rfl dX2_areDatesToldAnewSound_7 (r_icmp_geZ (tgt := 57) hX dX2_areDatesToldAnewSound_8 (by decide) (by decide) (by decide) (fun q => absurd q (by decide)) (fun _ => ?_)))))))
  refine r_iconstZ hX dX2_areDatesToldAnewSound_11 (r_istore_n hX dX2_areDatesToldAnewSound_12 rfl (by decide) rfl (r_iload_n hX dX2_areDatesToldAnewSound_13 rfl rfl (r_aload_n hX dX2_areDatesToldAnewSound_14 rfl rfl (r_get hX kf_X2_9 0 rfl rfl dX2_areDatesToldAnewSound_15 (r_alen (v := iZ 4) hX 1 0 rfl rfl rfl dX2_areDatesToldAnewSound_18 (r_icmp_geZ (tgt := 51) hX dX2_areDatesToldAnewSound_19 (by decide) (by decide) (by decide) (fun q => absurd q (by decide)) (fun _ => ?_)))))))
  refine r_aload_n hX dX2_areDatesToldAnewSound_22 rfl rfl (r_aload_n hX dX2_areDatesToldAnewSound_23 rfl rfl (r_get hX kf_X2_20 0 rfl rfl dX2_areDatesToldAnewSound_24 (r_iload_n hX dX2_areDatesToldAnewSound_27 rfl rfl (r_callS hX (z_X2_at_ok ad cs _ 3 _ 4 0 rfl (by decide) _ 0 (by first | with_reducible assumption | decide | omega) (by decide)) ks_X2_84 rfl rfl (Nat.le_of_ble_eq_true rfl) ⟨(Nat.le_of_ble_eq_true rfl), (Nat.le_of_ble_eq_true rfl)⟩ ⟨(Nat.le_of_ble_eq_true rfl), (Nat.le_of_ble_eq_true rfl)⟩ dX2_areDatesToldAnewSound_28 (fun _ _ z => False.elim z) (fun v9 ws9 h1 => ?_)))))
  obtain ⟨rfl, hw9⟩ := h1
  subst ws9
  dsimp only [mPush]
  refine r_aload_n hX dX2_areDatesToldAnewSound_31 rfl rfl (r_get hX kf_X2_9 0 rfl rfl dX2_areDatesToldAnewSound_32 (r_iload_n hX dX2_areDatesToldAnewSound_35 rfl rfl (r_ialdZ hX 1 0 rfl rfl 0 (by decide) (by decide) (by decide) dX2_areDatesToldAnewSound_36 (r_callV hX (z_X2_isToldAnewSound ad cs S T rest hS 0 (by decide) _ (by first | with_reducible assumption | decide | omega)) kv_X2_366 0 rfl rfl rfl rfl (Nat.le_of_ble_eq_true rfl) ⟨(Nat.le_of_ble_eq_true rfl), (Nat.le_of_ble_eq_true rfl)⟩ ⟨(Nat.le_of_ble_eq_true rfl), (Nat.le_of_ble_eq_true rfl)⟩ dX2_areDatesToldAnewSound_37 (fun _ _ z => False.elim z) (fun v9 ws9 h2 => ?_)))))
  obtain ⟨rfl, T3, hw9⟩ := h2
  subst ws9
  dsimp only [mPush]
  refine r_if_neB (tgt := 45) hX dX2_areDatesToldAnewSound_40 (by decide) (fun _ => ?_) (fun q => absurd q (by decide))
  refine r_iincZ (z := 1) (y := 1) hX dX2_areDatesToldAnewSound_45 rfl (by decide) rfl rfl (r_goto (tgt := 13) hX dX2_areDatesToldAnewSound_48 (by decide) (r_iload_n hX dX2_areDatesToldAnewSound_13 rfl rfl (r_aload_n hX dX2_areDatesToldAnewSound_14 rfl rfl (r_get hX kf_X2_9 0 rfl rfl dX2_areDatesToldAnewSound_15 (r_alen (v := iZ 4) hX 1 0 rfl rfl rfl dX2_areDatesToldAnewSound_18 (r_icmp_geZ (tgt := 51) hX dX2_areDatesToldAnewSound_19 (by decide) (by decide) (by decide) (fun q => absurd q (by decide)) (fun _ => ?_)))))))
  refine r_aload_n hX dX2_areDatesToldAnewSound_22 rfl rfl (r_aload_n hX dX2_areDatesToldAnewSound_23 rfl rfl (r_get hX kf_X2_20 0 rfl rfl dX2_areDatesToldAnewSound_24 (r_iload_n hX dX2_areDatesToldAnewSound_27 rfl rfl (r_callS hX (z_X2_at_ok ad cs _ 3 _ 4 0 rfl (by decide) _ 0 (by first | with_reducible assumption | decide | omega) (by decide)) ks_X2_84 rfl rfl (Nat.le_of_ble_eq_true rfl) ⟨(Nat.le_of_ble_eq_true rfl), (Nat.le_of_ble_eq_true rfl)⟩ ⟨(Nat.le_of_ble_eq_true rfl), (Nat.le_of_ble_eq_true rfl)⟩ dX2_areDatesToldAnewSound_28 (fun _ _ z => False.elim z) (fun v9 ws9 h4 => ?_)))))
  obtain ⟨rfl, hw9⟩ := h4
  subst ws9
  dsimp only [mPush]
  refine r_aload_n hX dX2_areDatesToldAnewSound_31 rfl rfl (r_get hX kf_X2_9 0 rfl rfl dX2_areDatesToldAnewSound_32 (r_iload_n hX dX2_areDatesToldAnewSound_35 rfl rfl (r_ialdZ hX 1 0 rfl rfl 1 (by decide) (by decide) (by decide) dX2_areDatesToldAnewSound_36 (r_callV hX (z_X2_isToldAnewSound ad cs S T3 rest hS 0 (by decide) _ (by first | with_reducible assumption | decide | omega)) kv_X2_366 0 rfl rfl rfl rfl (Nat.le_of_ble_eq_true rfl) ⟨(Nat.le_of_ble_eq_true rfl), (Nat.le_of_ble_eq_true rfl)⟩ ⟨(Nat.le_of_ble_eq_true rfl), (Nat.le_of_ble_eq_true rfl)⟩ dX2_areDatesToldAnewSound_37 (fun _ _ z => False.elim z) (fun v9 ws9 h5 => ?_)))))
  obtain ⟨rfl, T6, hw9⟩ := h5
  subst ws9
  dsimp only [mPush]
  refine r_if_neB (tgt := 45) hX dX2_areDatesToldAnewSound_40 (by decide) (fun _ => ?_) (fun q => absurd q (by decide))
  refine r_iincZ (z := 1) (y := 2) hX dX2_areDatesToldAnewSound_45 rfl (by decide) rfl rfl (r_goto (tgt := 13) hX dX2_areDatesToldAnewSound_48 (by decide) (r_iload_n hX dX2_areDatesToldAnewSound_13 rfl rfl (r_aload_n hX dX2_areDatesToldAnewSound_14 rfl rfl (r_get hX kf_X2_9 0 rfl rfl dX2_areDatesToldAnewSound_15 (r_alen (v := iZ 4) hX 1 0 rfl rfl rfl dX2_areDatesToldAnewSound_18 (r_icmp_geZ (tgt := 51) hX dX2_areDatesToldAnewSound_19 (by decide) (by decide) (by decide) (fun q => absurd q (by decide)) (fun _ => ?_)))))))
  refine r_aload_n hX dX2_areDatesToldAnewSound_22 rfl rfl (r_aload_n hX dX2_areDatesToldAnewSound_23 rfl rfl (r_get hX kf_X2_20 0 rfl rfl dX2_areDatesToldAnewSound_24 (r_iload_n hX dX2_areDatesToldAnewSound_27 rfl rfl (r_callS hX (z_X2_at_ok ad cs _ 3 _ 4 0 rfl (by decide) _ 0 (by first | with_reducible assumption | decide | omega) (by decide)) ks_X2_84 rfl rfl (Nat.le_of_ble_eq_true rfl) ⟨(Nat.le_of_ble_eq_true rfl), (Nat.le_of_ble_eq_true rfl)⟩ ⟨(Nat.le_of_ble_eq_true rfl), (Nat.le_of_ble_eq_true rfl)⟩ dX2_areDatesToldAnewSound_28 (fun _ _ z => False.elim z) (fun v9 ws9 h7 => ?_)))))
  obtain ⟨rfl, hw9⟩ := h7
  subst ws9
  dsimp only [mPush]
  refine r_aload_n hX dX2_areDatesToldAnewSound_31 rfl rfl (r_get hX kf_X2_9 0 rfl rfl dX2_areDatesToldAnewSound_32 (r_iload_n hX dX2_areDatesToldAnewSound_35 rfl rfl (r_ialdZ hX 1 0 rfl rfl 2 (by decide) (by decide) (by decide) dX2_areDatesToldAnewSound_36 (r_callV hX (z_X2_isToldAnewSound ad cs S T6 rest hS 0 (by decide) _ (by first | with_reducible assumption | decide | omega)) kv_X2_366 0 rfl rfl rfl rfl (Nat.le_of_ble_eq_true rfl) ⟨(Nat.le_of_ble_eq_true rfl), (Nat.le_of_ble_eq_true rfl)⟩ ⟨(Nat.le_of_ble_eq_true rfl), (Nat.le_of_ble_eq_true rfl)⟩ dX2_areDatesToldAnewSound_37 (fun _ _ z => False.elim z) (fun v9 ws9 h8 => ?_)))))
  obtain ⟨rfl, T9, hw9⟩ := h8
  subst ws9
  dsimp only [mPush]
  refine r_if_neB (tgt := 45) hX dX2_areDatesToldAnewSound_40 (by decide) (fun _ => ?_) (fun q => absurd q (by decide))
  refine r_iincZ (z := 1) (y := 3) hX dX2_areDatesToldAnewSound_45 rfl (by decide) rfl rfl (r_goto (tgt := 13) hX dX2_areDatesToldAnewSound_48 (by decide) (r_iload_n hX dX2_areDatesToldAnewSound_13 rfl rfl (r_aload_n hX dX2_areDatesToldAnewSound_14 rfl rfl (r_get hX kf_X2_9 0 rfl rfl dX2_areDatesToldAnewSound_15 (r_alen (v := iZ 4) hX 1 0 rfl rfl rfl dX2_areDatesToldAnewSound_18 (r_icmp_geZ (tgt := 51) hX dX2_areDatesToldAnewSound_19 (by decide) (by decide) (by decide) (fun q => absurd q (by decide)) (fun _ => ?_)))))))
  refine r_aload_n hX dX2_areDatesToldAnewSound_22 rfl rfl (r_aload_n hX dX2_areDatesToldAnewSound_23 rfl rfl (r_get hX kf_X2_20 0 rfl rfl dX2_areDatesToldAnewSound_24 (r_iload_n hX dX2_areDatesToldAnewSound_27 rfl rfl (r_callS hX (z_X2_at_ok ad cs _ 3 _ 4 0 rfl (by decide) _ 0 (by first | with_reducible assumption | decide | omega) (by decide)) ks_X2_84 rfl rfl (Nat.le_of_ble_eq_true rfl) ⟨(Nat.le_of_ble_eq_true rfl), (Nat.le_of_ble_eq_true rfl)⟩ ⟨(Nat.le_of_ble_eq_true rfl), (Nat.le_of_ble_eq_true rfl)⟩ dX2_areDatesToldAnewSound_28 (fun _ _ z => False.elim z) (fun v9 ws9 h10 => ?_)))))
  obtain ⟨rfl, hw9⟩ := h10
  subst ws9
  dsimp only [mPush]
  refine r_aload_n hX dX2_areDatesToldAnewSound_31 rfl rfl (r_get hX kf_X2_9 0 rfl rfl dX2_areDatesToldAnewSound_32 (r_iload_n hX dX2_areDatesToldAnewSound_35 rfl rfl (r_ialdZ hX 1 0 rfl rfl 3 (by decide) (by decide) (by decide) dX2_areDatesToldAnewSound_36 (r_callV hX (z_X2_isToldAnewSound ad cs S T9 rest hS 0 (by decide) _ (by first | with_reducible assumption | decide | omega)) kv_X2_366 0 rfl rfl rfl rfl (Nat.le_of_ble_eq_true rfl) ⟨(Nat.le_of_ble_eq_true rfl), (Nat.le_of_ble_eq_true rfl)⟩ ⟨(Nat.le_of_ble_eq_true rfl), (Nat.le_of_ble_eq_true rfl)⟩ dX2_areDatesToldAnewSound_37 (fun _ _ z => False.elim z) (fun v9 ws9 h11 => ?_)))))
  obtain ⟨rfl, T12, hw9⟩ := h11
  subst ws9
  dsimp only [mPush]
  refine r_if_neB (tgt := 45) hX dX2_areDatesToldAnewSound_40 (by decide) (fun _ => ?_) (fun q => absurd q (by decide))
  refine r_iincZ (z := 1) (y := 4) hX dX2_areDatesToldAnewSound_45 rfl (by decide) rfl rfl (r_goto (tgt := 13) hX dX2_areDatesToldAnewSound_48 (by decide) (r_iload_n hX dX2_areDatesToldAnewSound_13 rfl rfl (r_aload_n hX dX2_areDatesToldAnewSound_14 rfl rfl (r_get hX kf_X2_9 0 rfl rfl dX2_areDatesToldAnewSound_15 (r_alen (v := iZ 4) hX 1 0 rfl rfl rfl dX2_areDatesToldAnewSound_18 (r_icmp_geZ (tgt := 51) hX dX2_areDatesToldAnewSound_19 (by decide) (by decide) (by decide) (fun _ => ?_) (fun q => absurd (by decide) q)))))))
  refine r_iincZ (z := 1) (y := 1) hX dX2_areDatesToldAnewSound_51 rfl (by decide) rfl rfl (r_goto (tgt := 2) hX dX2_areDatesToldAnewSound_54 (by decide) (r_iload_n hX dX2_areDatesToldAnewSound_2 rfl rfl (r_aload_n hX dX2_areDatesToldAnewSound_3 rfl rfl (r_get hX kf_X2_20 0 rfl rfl dX2_areDatesToldAnewSound_4 (r_alen (v := iZ 4) hX 3 2 rfl rfl rfl dX2_areDatesToldAnewSound_7 (r_icmp_geZ (tgt := 57) hX dX2_areDatesToldAnewSound_8 (by decide) (by decide) (by decide) (fun q => absurd q (by decide)) (fun _ => ?_)))))))
  refine r_iconstZ hX dX2_areDatesToldAnewSound_11 (r_istore_n hX dX2_areDatesToldAnewSound_12 rfl (by decide) rfl (r_iload_n hX dX2_areDatesToldAnewSound_13 rfl rfl (r_aload_n hX dX2_areDatesToldAnewSound_14 rfl rfl (r_get hX kf_X2_9 0 rfl rfl dX2_areDatesToldAnewSound_15 (r_alen (v := iZ 4) hX 1 0 rfl rfl rfl dX2_areDatesToldAnewSound_18 (r_icmp_geZ (tgt := 51) hX dX2_areDatesToldAnewSound_19 (by decide) (by decide) (by decide) (fun q => absurd q (by decide)) (fun _ => ?_)))))))
  refine r_aload_n hX dX2_areDatesToldAnewSound_22 rfl rfl (r_aload_n hX dX2_areDatesToldAnewSound_23 rfl rfl (r_get hX kf_X2_20 0 rfl rfl dX2_areDatesToldAnewSound_24 (r_iload_n hX dX2_areDatesToldAnewSound_27 rfl rfl (r_callS hX (z_X2_at_ok ad cs _ 3 _ 4 0 rfl (by decide) _ 1 (by first | with_reducible assumption | decide | omega) (by decide)) ks_X2_84 rfl rfl (Nat.le_of_ble_eq_true rfl) ⟨(Nat.le_of_ble_eq_true rfl), (Nat.le_of_ble_eq_true rfl)⟩ ⟨(Nat.le_of_ble_eq_true rfl), (Nat.le_of_ble_eq_true rfl)⟩ dX2_areDatesToldAnewSound_28 (fun _ _ z => False.elim z) (fun v9 ws9 h13 => ?_)))))
  obtain ⟨rfl, hw9⟩ := h13
  subst ws9
  dsimp only [mPush]
  refine r_aload_n hX dX2_areDatesToldAnewSound_31 rfl rfl (r_get hX kf_X2_9 0 rfl rfl dX2_areDatesToldAnewSound_32 (r_iload_n hX dX2_areDatesToldAnewSound_35 rfl rfl (r_ialdZ hX 1 0 rfl rfl 0 (by decide) (by decide) (by decide) dX2_areDatesToldAnewSound_36 (r_callV hX (z_X2_isToldAnewSound ad cs S T12 rest hS 1 (by decide) _ (by first | with_reducible assumption | decide | omega)) kv_X2_366 0 rfl rfl rfl rfl (Nat.le_of_ble_eq_true rfl) ⟨(Nat.le_of_ble_eq_true rfl), (Nat.le_of_ble_eq_true rfl)⟩ ⟨(Nat.le_of_ble_eq_true rfl), (Nat.le_of_ble_eq_true rfl)⟩ dX2_areDatesToldAnewSound_37 (fun _ _ z => False.elim z) (fun v9 ws9 h14 => ?_)))))
  obtain ⟨rfl, T15, hw9⟩ := h14
  subst ws9
  dsimp only [mPush]
  refine r_if_neB (tgt := 45) hX dX2_areDatesToldAnewSound_40 (by decide) (fun _ => ?_) (fun q => absurd q (by decide))
  refine r_iincZ (z := 1) (y := 1) hX dX2_areDatesToldAnewSound_45 rfl (by decide) rfl rfl (r_goto (tgt := 13) hX dX2_areDatesToldAnewSound_48 (by decide) (r_iload_n hX dX2_areDatesToldAnewSound_13 rfl rfl (r_aload_n hX dX2_areDatesToldAnewSound_14 rfl rfl (r_get hX kf_X2_9 0 rfl rfl dX2_areDatesToldAnewSound_15 (r_alen (v := iZ 4) hX 1 0 rfl rfl rfl dX2_areDatesToldAnewSound_18 (r_icmp_geZ (tgt := 51) hX dX2_areDatesToldAnewSound_19 (by decide) (by decide) (by decide) (fun q => absurd q (by decide)) (fun _ => ?_)))))))
  refine r_aload_n hX dX2_areDatesToldAnewSound_22 rfl rfl (r_aload_n hX dX2_areDatesToldAnewSound_23 rfl rfl (r_get hX kf_X2_20 0 rfl rfl dX2_areDatesToldAnewSound_24 (r_iload_n hX dX2_areDatesToldAnewSound_27 rfl rfl (r_callS hX (z_X2_at_ok ad cs _ 3 _ 4 0 rfl (by decide) _ 1 (by first | with_reducible assumption | decide | omega) (by decide)) ks_X2_84 rfl rfl (Nat.le_of_ble_eq_true rfl) ⟨(Nat.le_of_ble_eq_true rfl), (Nat.le_of_ble_eq_true rfl)⟩ ⟨(Nat.le_of_ble_eq_true rfl), (Nat.le_of_ble_eq_true rfl)⟩ dX2_areDatesToldAnewSound_28 (fun _ _ z => False.elim z) (fun v9 ws9 h16 => ?_)))))
  obtain ⟨rfl, hw9⟩ := h16
  subst ws9
  dsimp only [mPush]
  refine r_aload_n hX dX2_areDatesToldAnewSound_31 rfl rfl (r_get hX kf_X2_9 0 rfl rfl dX2_areDatesToldAnewSound_32 (r_iload_n hX dX2_areDatesToldAnewSound_35 rfl rfl (r_ialdZ hX 1 0 rfl rfl 1 (by decide) (by decide) (by decide) dX2_areDatesToldAnewSound_36 (r_callV hX (z_X2_isToldAnewSound ad cs S T15 rest hS 1 (by decide) _ (by first | with_reducible assumption | decide | omega)) kv_X2_366 0 rfl rfl rfl rfl (Nat.le_of_ble_eq_true rfl) ⟨(Nat.le_of_ble_eq_true rfl), (Nat.le_of_ble_eq_true rfl)⟩ ⟨(Nat.le_of_ble_eq_true rfl), (Nat.le_of_ble_eq_true rfl)⟩ dX2_areDatesToldAnewSound_37 (fun _ _ z => False.elim z) (fun v9 ws9 h17 => ?_)))))
  obtain ⟨rfl, T18, hw9⟩ := h17
  subst ws9
  dsimp only [mPush]
  refine r_if_neB (tgt := 45) hX dX2_areDatesToldAnewSound_40 (by decide) (fun _ => ?_) (fun q => absurd q (by decide))
  refine r_iincZ (z := 1) (y := 2) hX dX2_areDatesToldAnewSound_45 rfl (by decide) rfl rfl (r_goto (tgt := 13) hX dX2_areDatesToldAnewSound_48 (by decide) (r_iload_n hX dX2_areDatesToldAnewSound_13 rfl rfl (r_aload_n hX dX2_areDatesToldAnewSound_14 rfl rfl (r_get hX kf_X2_9 0 rfl rfl dX2_areDatesToldAnewSound_15 (r_alen (v := iZ 4) hX 1 0 rfl rfl rfl dX2_areDatesToldAnewSound_18 (r_icmp_geZ (tgt := 51) hX dX2_areDatesToldAnewSound_19 (by decide) (by decide) (by decide) (fun q => absurd q (by decide)) (fun _ => ?_)))))))
  refine r_aload_n hX dX2_areDatesToldAnewSound_22 rfl rfl (r_aload_n hX dX2_areDatesToldAnewSound_23 rfl rfl (r_get hX kf_X2_20 0 rfl rfl dX2_areDatesToldAnewSound_24 (r_iload_n hX dX2_areDatesToldAnewSound_27 rfl rfl (r_callS hX (z_X2_at_ok ad cs _ 3 _ 4 0 rfl (by decide) _ 1 (by first | with_reducible assumption | decide | omega) (by decide)) ks_X2_84 rfl rfl (Nat.le_of_ble_eq_true rfl) ⟨(Nat.le_of_ble_eq_true rfl), (Nat.le_of_ble_eq_true rfl)⟩ ⟨(Nat.le_of_ble_eq_true rfl), (Nat.le_of_ble_eq_true rfl)⟩ dX2_areDatesToldAnewSound_28 (fun _ _ z => False.elim z) (fun v9 ws9 h19 => ?_)))))
  obtain ⟨rfl, hw9⟩ := h19
  subst ws9
  dsimp only [mPush]
  refine r_aload_n hX dX2_areDatesToldAnewSound_31 rfl rfl (r_get hX kf_X2_9 0 rfl rfl dX2_areDatesToldAnewSound_32 (r_iload_n hX dX2_areDatesToldAnewSound_35 rfl rfl (r_ialdZ hX 1 0 rfl rfl 2 (by decide) (by decide) (by decide) dX2_areDatesToldAnewSound_36 (r_callV hX (z_X2_isToldAnewSound ad cs S T18 rest hS 1 (by decide) _ (by first | with_reducible assumption | decide | omega)) kv_X2_366 0 rfl rfl rfl rfl (Nat.le_of_ble_eq_true rfl) ⟨(Nat.le_of_ble_eq_true rfl), (Nat.le_of_ble_eq_true rfl)⟩ ⟨(Nat.le_of_ble_eq_true rfl), (Nat.le_of_ble_eq_true rfl)⟩ dX2_areDatesToldAnewSound_37 (fun _ _ z => False.elim z) (fun v9 ws9 h20 => ?_)))))
  obtain ⟨rfl, T21, hw9⟩ := h20
  subst ws9
  dsimp only [mPush]
  refine r_if_neB (tgt := 45) hX dX2_areDatesToldAnewSound_40 (by decide) (fun _ => ?_) (fun q => absurd q (by decide))
  refine r_iincZ (z := 1) (y := 3) hX dX2_areDatesToldAnewSound_45 rfl (by decide) rfl rfl (r_goto (tgt := 13) hX dX2_areDatesToldAnewSound_48 (by decide) (r_iload_n hX dX2_areDatesToldAnewSound_13 rfl rfl (r_aload_n hX dX2_areDatesToldAnewSound_14 rfl rfl (r_get hX kf_X2_9 0 rfl rfl dX2_areDatesToldAnewSound_15 (r_alen (v := iZ 4) hX 1 0 rfl rfl rfl dX2_areDatesToldAnewSound_18 (r_icmp_geZ (tgt := 51) hX dX2_areDatesToldAnewSound_19 (by decide) (by decide) (by decide) (fun q => absurd q (by decide)) (fun _ => ?_)))))))
  refine r_aload_n hX dX2_areDatesToldAnewSound_22 rfl rfl (r_aload_n hX dX2_areDatesToldAnewSound_23 rfl rfl (r_get hX kf_X2_20 0 rfl rfl dX2_areDatesToldAnewSound_24 (r_iload_n hX dX2_areDatesToldAnewSound_27 rfl rfl (r_callS hX (z_X2_at_ok ad cs _ 3 _ 4 0 rfl (by decide) _ 1 (by first | with_reducible assumption | decide | omega) (by decide)) ks_X2_84 rfl rfl (Nat.le_of_ble_eq_true rfl) ⟨(Nat.le_of_ble_eq_true rfl), (Nat.le_of_ble_eq_true rfl)⟩ ⟨(Nat.le_of_ble_eq_true rfl), (Nat.le_of_ble_eq_true rfl)⟩ dX2_areDatesToldAnewSound_28 (fun _ _ z => False.elim z) (fun v9 ws9 h22 => ?_)))))
  obtain ⟨rfl, hw9⟩ := h22
  subst ws9
  dsimp only [mPush]
  refine r_aload_n hX dX2_areDatesToldAnewSound_31 rfl rfl (r_get hX kf_X2_9 0 rfl rfl dX2_areDatesToldAnewSound_32 (r_iload_n hX dX2_areDatesToldAnewSound_35 rfl rfl (r_ialdZ hX 1 0 rfl rfl 3 (by decide) (by decide) (by decide) dX2_areDatesToldAnewSound_36 (r_callV hX (z_X2_isToldAnewSound ad cs S T21 rest hS 1 (by decide) _ (by first | with_reducible assumption | decide | omega)) kv_X2_366 0 rfl rfl rfl rfl (Nat.le_of_ble_eq_true rfl) ⟨(Nat.le_of_ble_eq_true rfl), (Nat.le_of_ble_eq_true rfl)⟩ ⟨(Nat.le_of_ble_eq_true rfl), (Nat.le_of_ble_eq_true rfl)⟩ dX2_areDatesToldAnewSound_37 (fun _ _ z => False.elim z) (fun v9 ws9 h23 => ?_)))))
  obtain ⟨rfl, T24, hw9⟩ := h23
  subst ws9
  dsimp only [mPush]
  refine r_if_neB (tgt := 45) hX dX2_areDatesToldAnewSound_40 (by decide) (fun _ => ?_) (fun q => absurd q (by decide))
  refine r_iincZ (z := 1) (y := 4) hX dX2_areDatesToldAnewSound_45 rfl (by decide) rfl rfl (r_lc3 (i0 := 0) (i1 := 1) (i2 := 2) rfl rfl rfl (r_goto (tgt := 13) hX dX2_areDatesToldAnewSound_48 (by decide) (r_iload_n hX dX2_areDatesToldAnewSound_13 rfl rfl (r_aload_n hX dX2_areDatesToldAnewSound_14 rfl rfl (r_get hX kf_X2_9 0 rfl rfl dX2_areDatesToldAnewSound_15 (r_alen (v := iZ 4) hX 1 0 rfl rfl rfl dX2_areDatesToldAnewSound_18 (r_icmp_geZ (tgt := 51) hX dX2_areDatesToldAnewSound_19 (by decide) (by decide) (by decide) (fun _ => ?_) (fun q => absurd (by decide) q))))))))
  refine r_iincZ (z := 1) (y := 2) hX dX2_areDatesToldAnewSound_51 rfl (by decide) rfl rfl (r_goto (tgt := 2) hX dX2_areDatesToldAnewSound_54 (by decide) (r_iload_n hX dX2_areDatesToldAnewSound_2 rfl rfl (r_aload_n hX dX2_areDatesToldAnewSound_3 rfl rfl (r_get hX kf_X2_20 0 rfl rfl dX2_areDatesToldAnewSound_4 (r_alen (v := iZ 4) hX 3 2 rfl rfl rfl dX2_areDatesToldAnewSound_7 (r_icmp_geZ (tgt := 57) hX dX2_areDatesToldAnewSound_8 (by decide) (by decide) (by decide) (fun q => absurd q (by decide)) (fun _ => ?_)))))))
  refine r_iconstZ hX dX2_areDatesToldAnewSound_11 (r_istore_n hX dX2_areDatesToldAnewSound_12 rfl (by decide) rfl (r_iload_n hX dX2_areDatesToldAnewSound_13 rfl rfl (r_aload_n hX dX2_areDatesToldAnewSound_14 rfl rfl (r_get hX kf_X2_9 0 rfl rfl dX2_areDatesToldAnewSound_15 (r_alen (v := iZ 4) hX 1 0 rfl rfl rfl dX2_areDatesToldAnewSound_18 (r_icmp_geZ (tgt := 51) hX dX2_areDatesToldAnewSound_19 (by decide) (by decide) (by decide) (fun q => absurd q (by decide)) (fun _ => ?_)))))))
  refine r_aload_n hX dX2_areDatesToldAnewSound_22 rfl rfl (r_aload_n hX dX2_areDatesToldAnewSound_23 rfl rfl (r_get hX kf_X2_20 0 rfl rfl dX2_areDatesToldAnewSound_24 (r_iload_n hX dX2_areDatesToldAnewSound_27 rfl rfl (r_callS hX (z_X2_at_ok ad cs _ 3 _ 4 0 rfl (by decide) _ 2 (by first | with_reducible assumption | decide | omega) (by decide)) ks_X2_84 rfl rfl (Nat.le_of_ble_eq_true rfl) ⟨(Nat.le_of_ble_eq_true rfl), (Nat.le_of_ble_eq_true rfl)⟩ ⟨(Nat.le_of_ble_eq_true rfl), (Nat.le_of_ble_eq_true rfl)⟩ dX2_areDatesToldAnewSound_28 (fun _ _ z => False.elim z) (fun v9 ws9 h25 => ?_)))))
  obtain ⟨rfl, hw9⟩ := h25
  subst ws9
  dsimp only [mPush]
  refine r_aload_n hX dX2_areDatesToldAnewSound_31 rfl rfl (r_get hX kf_X2_9 0 rfl rfl dX2_areDatesToldAnewSound_32 (r_iload_n hX dX2_areDatesToldAnewSound_35 rfl rfl (r_ialdZ hX 1 0 rfl rfl 0 (by decide) (by decide) (by decide) dX2_areDatesToldAnewSound_36 (r_callV hX (z_X2_isToldAnewSound ad cs S T24 rest hS 2 (by decide) _ (by first | with_reducible assumption | decide | omega)) kv_X2_366 0 rfl rfl rfl rfl (Nat.le_of_ble_eq_true rfl) ⟨(Nat.le_of_ble_eq_true rfl), (Nat.le_of_ble_eq_true rfl)⟩ ⟨(Nat.le_of_ble_eq_true rfl), (Nat.le_of_ble_eq_true rfl)⟩ dX2_areDatesToldAnewSound_37 (fun _ _ z => False.elim z) (fun v9 ws9 h26 => ?_)))))
  obtain ⟨rfl, T27, hw9⟩ := h26
  subst ws9
  dsimp only [mPush]
  refine r_if_neB (tgt := 45) hX dX2_areDatesToldAnewSound_40 (by decide) (fun _ => ?_) (fun q => absurd q (by decide))
  refine r_iincZ (z := 1) (y := 1) hX dX2_areDatesToldAnewSound_45 rfl (by decide) rfl rfl (r_goto (tgt := 13) hX dX2_areDatesToldAnewSound_48 (by decide) (r_iload_n hX dX2_areDatesToldAnewSound_13 rfl rfl (r_aload_n hX dX2_areDatesToldAnewSound_14 rfl rfl (r_get hX kf_X2_9 0 rfl rfl dX2_areDatesToldAnewSound_15 (r_alen (v := iZ 4) hX 1 0 rfl rfl rfl dX2_areDatesToldAnewSound_18 (r_icmp_geZ (tgt := 51) hX dX2_areDatesToldAnewSound_19 (by decide) (by decide) (by decide) (fun q => absurd q (by decide)) (fun _ => ?_)))))))
  refine r_aload_n hX dX2_areDatesToldAnewSound_22 rfl rfl (r_aload_n hX dX2_areDatesToldAnewSound_23 rfl rfl (r_get hX kf_X2_20 0 rfl rfl dX2_areDatesToldAnewSound_24 (r_iload_n hX dX2_areDatesToldAnewSound_27 rfl rfl (r_callS hX (z_X2_at_ok ad cs _ 3 _ 4 0 rfl (by decide) _ 2 (by first | with_reducible assumption | decide | omega) (by decide)) ks_X2_84 rfl rfl (Nat.le_of_ble_eq_true rfl) ⟨(Nat.le_of_ble_eq_true rfl), (Nat.le_of_ble_eq_true rfl)⟩ ⟨(Nat.le_of_ble_eq_true rfl), (Nat.le_of_ble_eq_true rfl)⟩ dX2_areDatesToldAnewSound_28 (fun _ _ z => False.elim z) (fun v9 ws9 h28 => ?_)))))
  obtain ⟨rfl, hw9⟩ := h28
  subst ws9
  dsimp only [mPush]
  refine r_aload_n hX dX2_areDatesToldAnewSound_31 rfl rfl (r_get hX kf_X2_9 0 rfl rfl dX2_areDatesToldAnewSound_32 (r_iload_n hX dX2_areDatesToldAnewSound_35 rfl rfl (r_ialdZ hX 1 0 rfl rfl 1 (by decide) (by decide) (by decide) dX2_areDatesToldAnewSound_36 (r_callV hX (z_X2_isToldAnewSound ad cs S T27 rest hS 2 (by decide) _ (by first | with_reducible assumption | decide | omega)) kv_X2_366 0 rfl rfl rfl rfl (Nat.le_of_ble_eq_true rfl) ⟨(Nat.le_of_ble_eq_true rfl), (Nat.le_of_ble_eq_true rfl)⟩ ⟨(Nat.le_of_ble_eq_true rfl), (Nat.le_of_ble_eq_true rfl)⟩ dX2_areDatesToldAnewSound_37 (fun _ _ z => False.elim z) (fun v9 ws9 h29 => ?_)))))
  obtain ⟨rfl, T30, hw9⟩ := h29
  subst ws9
  dsimp only [mPush]
  refine r_if_neB (tgt := 45) hX dX2_areDatesToldAnewSound_40 (by decide) (fun _ => ?_) (fun q => absurd q (by decide))
  refine r_iincZ (z := 1) (y := 2) hX dX2_areDatesToldAnewSound_45 rfl (by decide) rfl rfl (r_goto (tgt := 13) hX dX2_areDatesToldAnewSound_48 (by decide) (r_iload_n hX dX2_areDatesToldAnewSound_13 rfl rfl (r_aload_n hX dX2_areDatesToldAnewSound_14 rfl rfl (r_get hX kf_X2_9 0 rfl rfl dX2_areDatesToldAnewSound_15 (r_alen (v := iZ 4) hX 1 0 rfl rfl rfl dX2_areDatesToldAnewSound_18 (r_icmp_geZ (tgt := 51) hX dX2_areDatesToldAnewSound_19 (by decide) (by decide) (by decide) (fun q => absurd q (by decide)) (fun _ => ?_)))))))
  refine r_aload_n hX dX2_areDatesToldAnewSound_22 rfl rfl (r_aload_n hX dX2_areDatesToldAnewSound_23 rfl rfl (r_get hX kf_X2_20 0 rfl rfl dX2_areDatesToldAnewSound_24 (r_iload_n hX dX2_areDatesToldAnewSound_27 rfl rfl (r_callS hX (z_X2_at_ok ad cs _ 3 _ 4 0 rfl (by decide) _ 2 (by first | with_reducible assumption | decide | omega) (by decide)) ks_X2_84 rfl rfl (Nat.le_of_ble_eq_true rfl) ⟨(Nat.le_of_ble_eq_true rfl), (Nat.le_of_ble_eq_true rfl)⟩ ⟨(Nat.le_of_ble_eq_true rfl), (Nat.le_of_ble_eq_true rfl)⟩ dX2_areDatesToldAnewSound_28 (fun _ _ z => False.elim z) (fun v9 ws9 h31 => ?_)))))
  obtain ⟨rfl, hw9⟩ := h31
  subst ws9
  dsimp only [mPush]
  refine r_aload_n hX dX2_areDatesToldAnewSound_31 rfl rfl (r_get hX kf_X2_9 0 rfl rfl dX2_areDatesToldAnewSound_32 (r_iload_n hX dX2_areDatesToldAnewSound_35 rfl rfl (r_ialdZ hX 1 0 rfl rfl 2 (by decide) (by decide) (by decide) dX2_areDatesToldAnewSound_36 (r_callV hX (z_X2_isToldAnewSound ad cs S T30 rest hS 2 (by decide) _ (by first | with_reducible assumption | decide | omega)) kv_X2_366 0 rfl rfl rfl rfl (Nat.le_of_ble_eq_true rfl) ⟨(Nat.le_of_ble_eq_true rfl), (Nat.le_of_ble_eq_true rfl)⟩ ⟨(Nat.le_of_ble_eq_true rfl), (Nat.le_of_ble_eq_true rfl)⟩ dX2_areDatesToldAnewSound_37 (fun _ _ z => False.elim z) (fun v9 ws9 h32 => ?_)))))
  obtain ⟨rfl, T33, hw9⟩ := h32
  subst ws9
  dsimp only [mPush]
  refine r_if_neB (tgt := 45) hX dX2_areDatesToldAnewSound_40 (by decide) (fun _ => ?_) (fun q => absurd q (by decide))
  refine r_iincZ (z := 1) (y := 3) hX dX2_areDatesToldAnewSound_45 rfl (by decide) rfl rfl (r_goto (tgt := 13) hX dX2_areDatesToldAnewSound_48 (by decide) (r_iload_n hX dX2_areDatesToldAnewSound_13 rfl rfl (r_aload_n hX dX2_areDatesToldAnewSound_14 rfl rfl (r_get hX kf_X2_9 0 rfl rfl dX2_areDatesToldAnewSound_15 (r_alen (v := iZ 4) hX 1 0 rfl rfl rfl dX2_areDatesToldAnewSound_18 (r_icmp_geZ (tgt := 51) hX dX2_areDatesToldAnewSound_19 (by decide) (by decide) (by decide) (fun q => absurd q (by decide)) (fun _ => ?_)))))))
  refine r_aload_n hX dX2_areDatesToldAnewSound_22 rfl rfl (r_aload_n hX dX2_areDatesToldAnewSound_23 rfl rfl (r_get hX kf_X2_20 0 rfl rfl dX2_areDatesToldAnewSound_24 (r_iload_n hX dX2_areDatesToldAnewSound_27 rfl rfl (r_callS hX (z_X2_at_ok ad cs _ 3 _ 4 0 rfl (by decide) _ 2 (by first | with_reducible assumption | decide | omega) (by decide)) ks_X2_84 rfl rfl (Nat.le_of_ble_eq_true rfl) ⟨(Nat.le_of_ble_eq_true rfl), (Nat.le_of_ble_eq_true rfl)⟩ ⟨(Nat.le_of_ble_eq_true rfl), (Nat.le_of_ble_eq_true rfl)⟩ dX2_areDatesToldAnewSound_28 (fun _ _ z => False.elim z) (fun v9 ws9 h34 => ?_)))))
  obtain ⟨rfl, hw9⟩ := h34
  subst ws9
  dsimp only [mPush]
  refine r_aload_n hX dX2_areDatesToldAnewSound_31 rfl rfl (r_get hX kf_X2_9 0 rfl rfl dX2_areDatesToldAnewSound_32 (r_iload_n hX dX2_areDatesToldAnewSound_35 rfl rfl (r_ialdZ hX 1 0 rfl rfl 3 (by decide) (by decide) (by decide) dX2_areDatesToldAnewSound_36 (r_callV hX (z_X2_isToldAnewSound ad cs S T33 rest hS 2 (by decide) _ (by first | with_reducible assumption | decide | omega)) kv_X2_366 0 rfl rfl rfl rfl (Nat.le_of_ble_eq_true rfl) ⟨(Nat.le_of_ble_eq_true rfl), (Nat.le_of_ble_eq_true rfl)⟩ ⟨(Nat.le_of_ble_eq_true rfl), (Nat.le_of_ble_eq_true rfl)⟩ dX2_areDatesToldAnewSound_37 (fun _ _ z => False.elim z) (fun v9 ws9 h35 => ?_)))))
  obtain ⟨rfl, T36, hw9⟩ := h35
  subst ws9
  dsimp only [mPush]
  refine r_if_neB (tgt := 45) hX dX2_areDatesToldAnewSound_40 (by decide) (fun _ => ?_) (fun q => absurd q (by decide))
  refine r_iincZ (z := 1) (y := 4) hX dX2_areDatesToldAnewSound_45 rfl (by decide) rfl rfl (r_goto (tgt := 13) hX dX2_areDatesToldAnewSound_48 (by decide) (r_iload_n hX dX2_areDatesToldAnewSound_13 rfl rfl (r_aload_n hX dX2_areDatesToldAnewSound_14 rfl rfl (r_get hX kf_X2_9 0 rfl rfl dX2_areDatesToldAnewSound_15 (r_alen (v := iZ 4) hX 1 0 rfl rfl rfl dX2_areDatesToldAnewSound_18 (r_icmp_geZ (tgt := 51) hX dX2_areDatesToldAnewSound_19 (by decide) (by decide) (by decide) (fun _ => ?_) (fun q => absurd (by decide) q)))))))
  refine r_iincZ (z := 1) (y := 3) hX dX2_areDatesToldAnewSound_51 rfl (by decide) rfl rfl (r_goto (tgt := 2) hX dX2_areDatesToldAnewSound_54 (by decide) (r_iload_n hX dX2_areDatesToldAnewSound_2 rfl rfl (r_aload_n hX dX2_areDatesToldAnewSound_3 rfl rfl (r_get hX kf_X2_20 0 rfl rfl dX2_areDatesToldAnewSound_4 (r_alen (v := iZ 4) hX 3 2 rfl rfl rfl dX2_areDatesToldAnewSound_7 (r_icmp_geZ (tgt := 57) hX dX2_areDatesToldAnewSound_8 (by decide) (by decide) (by decide) (fun q => absurd q (by decide)) (fun _ => ?_)))))))
  refine r_iconstZ hX dX2_areDatesToldAnewSound_11 (r_istore_n hX dX2_areDatesToldAnewSound_12 rfl (by decide) rfl (r_iload_n hX dX2_areDatesToldAnewSound_13 rfl rfl (r_aload_n hX dX2_areDatesToldAnewSound_14 rfl rfl (r_get hX kf_X2_9 0 rfl rfl dX2_areDatesToldAnewSound_15 (r_alen (v := iZ 4) hX 1 0 rfl rfl rfl dX2_areDatesToldAnewSound_18 (r_icmp_geZ (tgt := 51) hX dX2_areDatesToldAnewSound_19 (by decide) (by decide) (by decide) (fun q => absurd q (by decide)) (fun _ => ?_)))))))
  refine r_aload_n hX dX2_areDatesToldAnewSound_22 rfl rfl (r_aload_n hX dX2_areDatesToldAnewSound_23 rfl rfl (r_get hX kf_X2_20 0 rfl rfl dX2_areDatesToldAnewSound_24 (r_iload_n hX dX2_areDatesToldAnewSound_27 rfl rfl (r_callS hX (z_X2_at_ok ad cs _ 3 _ 4 0 rfl (by decide) _ 3 (by first | with_reducible assumption | decide | omega) (by decide)) ks_X2_84 rfl rfl (Nat.le_of_ble_eq_true rfl) ⟨(Nat.le_of_ble_eq_true rfl), (Nat.le_of_ble_eq_true rfl)⟩ ⟨(Nat.le_of_ble_eq_true rfl), (Nat.le_of_ble_eq_true rfl)⟩ dX2_areDatesToldAnewSound_28 (fun _ _ z => False.elim z) (fun v9 ws9 h37 => ?_)))))
  obtain ⟨rfl, hw9⟩ := h37
  subst ws9
  dsimp only [mPush]
  refine r_aload_n hX dX2_areDatesToldAnewSound_31 rfl rfl (r_get hX kf_X2_9 0 rfl rfl dX2_areDatesToldAnewSound_32 (r_iload_n hX dX2_areDatesToldAnewSound_35 rfl rfl (r_ialdZ hX 1 0 rfl rfl 0 (by decide) (by decide) (by decide) dX2_areDatesToldAnewSound_36 (r_callV hX (z_X2_isToldAnewSound ad cs S T36 rest hS 3 (by decide) _ (by first | with_reducible assumption | decide | omega)) kv_X2_366 0 rfl rfl rfl rfl (Nat.le_of_ble_eq_true rfl) ⟨(Nat.le_of_ble_eq_true rfl), (Nat.le_of_ble_eq_true rfl)⟩ ⟨(Nat.le_of_ble_eq_true rfl), (Nat.le_of_ble_eq_true rfl)⟩ dX2_areDatesToldAnewSound_37 (fun _ _ z => False.elim z) (fun v9 ws9 h38 => ?_)))))
  obtain ⟨rfl, T39, hw9⟩ := h38
  subst ws9
  dsimp only [mPush]
  refine r_if_neB (tgt := 45) hX dX2_areDatesToldAnewSound_40 (by decide) (fun _ => ?_) (fun q => absurd q (by decide))
  refine r_iincZ (z := 1) (y := 1) hX dX2_areDatesToldAnewSound_45 rfl (by decide) rfl rfl (r_goto (tgt := 13) hX dX2_areDatesToldAnewSound_48 (by decide) (r_iload_n hX dX2_areDatesToldAnewSound_13 rfl rfl (r_aload_n hX dX2_areDatesToldAnewSound_14 rfl rfl (r_get hX kf_X2_9 0 rfl rfl dX2_areDatesToldAnewSound_15 (r_alen (v := iZ 4) hX 1 0 rfl rfl rfl dX2_areDatesToldAnewSound_18 (r_icmp_geZ (tgt := 51) hX dX2_areDatesToldAnewSound_19 (by decide) (by decide) (by decide) (fun q => absurd q (by decide)) (fun _ => ?_)))))))
  refine r_aload_n hX dX2_areDatesToldAnewSound_22 rfl rfl (r_aload_n hX dX2_areDatesToldAnewSound_23 rfl rfl (r_get hX kf_X2_20 0 rfl rfl dX2_areDatesToldAnewSound_24 (r_iload_n hX dX2_areDatesToldAnewSound_27 rfl rfl (r_callS hX (z_X2_at_ok ad cs _ 3 _ 4 0 rfl (by decide) _ 3 (by first | with_reducible assumption | decide | omega) (by decide)) ks_X2_84 rfl rfl (Nat.le_of_ble_eq_true rfl) ⟨(Nat.le_of_ble_eq_true rfl), (Nat.le_of_ble_eq_true rfl)⟩ ⟨(Nat.le_of_ble_eq_true rfl), (Nat.le_of_ble_eq_true rfl)⟩ dX2_areDatesToldAnewSound_28 (fun _ _ z => False.elim z) (fun v9 ws9 h40 => ?_)))))
  obtain ⟨rfl, hw9⟩ := h40
  subst ws9
  dsimp only [mPush]
  refine r_aload_n hX dX2_areDatesToldAnewSound_31 rfl rfl (r_get hX kf_X2_9 0 rfl rfl dX2_areDatesToldAnewSound_32 (r_iload_n hX dX2_areDatesToldAnewSound_35 rfl rfl (r_ialdZ hX 1 0 rfl rfl 1 (by decide) (by decide) (by decide) dX2_areDatesToldAnewSound_36 (r_callV hX (z_X2_isToldAnewSound ad cs S T39 rest hS 3 (by decide) _ (by first | with_reducible assumption | decide | omega)) kv_X2_366 0 rfl rfl rfl rfl (Nat.le_of_ble_eq_true rfl) ⟨(Nat.le_of_ble_eq_true rfl), (Nat.le_of_ble_eq_true rfl)⟩ ⟨(Nat.le_of_ble_eq_true rfl), (Nat.le_of_ble_eq_true rfl)⟩ dX2_areDatesToldAnewSound_37 (fun _ _ z => False.elim z) (fun v9 ws9 h41 => ?_)))))
  obtain ⟨rfl, T42, hw9⟩ := h41
  subst ws9
  dsimp only [mPush]
  refine r_if_neB (tgt := 45) hX dX2_areDatesToldAnewSound_40 (by decide) (fun _ => ?_) (fun q => absurd q (by decide))
  refine r_iincZ (z := 1) (y := 2) hX dX2_areDatesToldAnewSound_45 rfl (by decide) rfl rfl (r_goto (tgt := 13) hX dX2_areDatesToldAnewSound_48 (by decide) (r_iload_n hX dX2_areDatesToldAnewSound_13 rfl rfl (r_aload_n hX dX2_areDatesToldAnewSound_14 rfl rfl (r_get hX kf_X2_9 0 rfl rfl dX2_areDatesToldAnewSound_15 (r_alen (v := iZ 4) hX 1 0 rfl rfl rfl dX2_areDatesToldAnewSound_18 (r_icmp_geZ (tgt := 51) hX dX2_areDatesToldAnewSound_19 (by decide) (by decide) (by decide) (fun q => absurd q (by decide)) (fun _ => ?_)))))))
  refine r_aload_n hX dX2_areDatesToldAnewSound_22 rfl rfl (r_aload_n hX dX2_areDatesToldAnewSound_23 rfl rfl (r_get hX kf_X2_20 0 rfl rfl dX2_areDatesToldAnewSound_24 (r_iload_n hX dX2_areDatesToldAnewSound_27 rfl rfl (r_callS hX (z_X2_at_ok ad cs _ 3 _ 4 0 rfl (by decide) _ 3 (by first | with_reducible assumption | decide | omega) (by decide)) ks_X2_84 rfl rfl (Nat.le_of_ble_eq_true rfl) ⟨(Nat.le_of_ble_eq_true rfl), (Nat.le_of_ble_eq_true rfl)⟩ ⟨(Nat.le_of_ble_eq_true rfl), (Nat.le_of_ble_eq_true rfl)⟩ dX2_areDatesToldAnewSound_28 (fun _ _ z => False.elim z) (fun v9 ws9 h43 => ?_)))))
  obtain ⟨rfl, hw9⟩ := h43
  subst ws9
  dsimp only [mPush]
  refine r_aload_n hX dX2_areDatesToldAnewSound_31 rfl rfl (r_get hX kf_X2_9 0 rfl rfl dX2_areDatesToldAnewSound_32 (r_iload_n hX dX2_areDatesToldAnewSound_35 rfl rfl (r_ialdZ hX 1 0 rfl rfl 2 (by decide) (by decide) (by decide) dX2_areDatesToldAnewSound_36 (r_callV hX (z_X2_isToldAnewSound ad cs S T42 rest hS 3 (by decide) _ (by first | with_reducible assumption | decide | omega)) kv_X2_366 0 rfl rfl rfl rfl (Nat.le_of_ble_eq_true rfl) ⟨(Nat.le_of_ble_eq_true rfl), (Nat.le_of_ble_eq_true rfl)⟩ ⟨(Nat.le_of_ble_eq_true rfl), (Nat.le_of_ble_eq_true rfl)⟩ dX2_areDatesToldAnewSound_37 (fun _ _ z => False.elim z) (fun v9 ws9 h44 => ?_)))))
  obtain ⟨rfl, T45, hw9⟩ := h44
  subst ws9
  dsimp only [mPush]
  refine r_if_neB (tgt := 45) hX dX2_areDatesToldAnewSound_40 (by decide) (fun _ => ?_) (fun q => absurd q (by decide))
  refine r_iincZ (z := 1) (y := 3) hX dX2_areDatesToldAnewSound_45 rfl (by decide) rfl rfl (r_goto (tgt := 13) hX dX2_areDatesToldAnewSound_48 (by decide) (r_iload_n hX dX2_areDatesToldAnewSound_13 rfl rfl (r_aload_n hX dX2_areDatesToldAnewSound_14 rfl rfl (r_get hX kf_X2_9 0 rfl rfl dX2_areDatesToldAnewSound_15 (r_alen (v := iZ 4) hX 1 0 rfl rfl rfl dX2_areDatesToldAnewSound_18 (r_icmp_geZ (tgt := 51) hX dX2_areDatesToldAnewSound_19 (by decide) (by decide) (by decide) (fun q => absurd q (by decide)) (fun _ => ?_)))))))
  refine r_aload_n hX dX2_areDatesToldAnewSound_22 rfl rfl (r_aload_n hX dX2_areDatesToldAnewSound_23 rfl rfl (r_get hX kf_X2_20 0 rfl rfl dX2_areDatesToldAnewSound_24 (r_iload_n hX dX2_areDatesToldAnewSound_27 rfl rfl (r_callS hX (z_X2_at_ok ad cs _ 3 _ 4 0 rfl (by decide) _ 3 (by first | with_reducible assumption | decide | omega) (by decide)) ks_X2_84 rfl rfl (Nat.le_of_ble_eq_true rfl) ⟨(Nat.le_of_ble_eq_true rfl), (Nat.le_of_ble_eq_true rfl)⟩ ⟨(Nat.le_of_ble_eq_true rfl), (Nat.le_of_ble_eq_true rfl)⟩ dX2_areDatesToldAnewSound_28 (fun _ _ z => False.elim z) (fun v9 ws9 h46 => ?_)))))
  obtain ⟨rfl, hw9⟩ := h46
  subst ws9
  dsimp only [mPush]
  refine r_aload_n hX dX2_areDatesToldAnewSound_31 rfl rfl (r_get hX kf_X2_9 0 rfl rfl dX2_areDatesToldAnewSound_32 (r_iload_n hX dX2_areDatesToldAnewSound_35 rfl rfl (r_ialdZ hX 1 0 rfl rfl 3 (by decide) (by decide) (by decide) dX2_areDatesToldAnewSound_36 (r_callV hX (z_X2_isToldAnewSound ad cs S T45 rest hS 3 (by decide) _ (by first | with_reducible assumption | decide | omega)) kv_X2_366 0 rfl rfl rfl rfl (Nat.le_of_ble_eq_true rfl) ⟨(Nat.le_of_ble_eq_true rfl), (Nat.le_of_ble_eq_true rfl)⟩ ⟨(Nat.le_of_ble_eq_true rfl), (Nat.le_of_ble_eq_true rfl)⟩ dX2_areDatesToldAnewSound_37 (fun _ _ z => False.elim z) (fun v9 ws9 h47 => ?_)))))
  obtain ⟨rfl, T48, hw9⟩ := h47
  subst ws9
  dsimp only [mPush]
  refine r_if_neB (tgt := 45) hX dX2_areDatesToldAnewSound_40 (by decide) (fun _ => ?_) (fun q => absurd q (by decide))
  refine r_iincZ (z := 1) (y := 4) hX dX2_areDatesToldAnewSound_45 rfl (by decide) rfl rfl (r_lc3 (i0 := 0) (i1 := 1) (i2 := 2) rfl rfl rfl (r_goto (tgt := 13) hX dX2_areDatesToldAnewSound_48 (by decide) (r_iload_n hX dX2_areDatesToldAnewSound_13 rfl rfl (r_aload_n hX dX2_areDatesToldAnewSound_14 rfl rfl (r_get hX kf_X2_9 0 rfl rfl dX2_areDatesToldAnewSound_15 (r_alen (v := iZ 4) hX 1 0 rfl rfl rfl dX2_areDatesToldAnewSound_18 (r_icmp_geZ (tgt := 51) hX dX2_areDatesToldAnewSound_19 (by decide) (by decide) (by decide) (fun _ => ?_) (fun q => absurd (by decide) q))))))))
  refine r_iincZ (z := 1) (y := 4) hX dX2_areDatesToldAnewSound_51 rfl (by decide) rfl rfl (r_goto (tgt := 2) hX dX2_areDatesToldAnewSound_54 (by decide) (r_iload_n hX dX2_areDatesToldAnewSound_2 rfl rfl (r_aload_n hX dX2_areDatesToldAnewSound_3 rfl rfl (r_get hX kf_X2_20 0 rfl rfl dX2_areDatesToldAnewSound_4 (r_alen (v := iZ 4) hX 3 2 rfl rfl rfl dX2_areDatesToldAnewSound_7 (r_icmp_geZ (tgt := 57) hX dX2_areDatesToldAnewSound_8 (by decide) (by decide) (by decide) (fun _ => ?_) (fun q => absurd (by decide) q)))))))
  refine r_iconstZ hX dX2_areDatesToldAnewSound_57 ?_
  exact r_zret hX hE dX2_areDatesToldAnewSound_58 (by decide) (Nat.le_of_ble_eq_true rfl) (Nat.le_of_ble_eq_true rfl) ⟨rfl, _, rfl⟩
set_option maxHeartbeats 4000000 in
set_option maxRecDepth 20000 in
theorem z_X2_arePairsSound (ad : Nat → Nat) (cs : ClassId × ClassId × ClassId) (S : mS) (T : mT2) (rest : va_W) (hS : sWF S)  : mCt (mTy cs) yX2_arePairsSound cX2_arePairsSound 3 (some .boolean) ⟨4, 0, 0, 90⟩ [.ref (ad 0)] (mWd ad cs (mKof S T) rest) (fun v ws' => v = some (.int (b2i true)) ∧ ∃ T' : mT2, ws' = mWd ad cs (mKof S T') rest) mNo := by
  refine mCt.of (by decide +kernel) (Nat.le_of_ble_eq_true rfl) (fun X hX hE => ?_)
  replace hX : mOK X RX2 cX2_arePairsSound 3 ⟨4, 0, 0, 90⟩ [] (mTy cs) := hX
  refine r_iconstZ hX dX2_arePairsSound_0 (r_istore_n hX dX2_arePairsSound_1 rfl (by decide) rfl (r_iload_n hX dX2_arePairsSound_2 rfl rfl (r_aload_n hX dX2_arePairsSound_3 rfl rfl (r_get hX kf_X2_20 0 rfl rfl dX2_arePairsSound_4 (r_alen (v := iZ 4) hX 3 2 rfl rfl rfl dX2_arePairsSound_7 (r_icmp_geZ (tgt := 58) hX dX2_arePairsSound_8 (by decide) (by decide) (by decide) (fun q => absurd q (by decide)) (fun _ => ?_)))))))
  refine r_iconstZ hX dX2_arePairsSound_11 (r_istore_n hX dX2_arePairsSound_12 rfl (by decide) rfl (r_iload_n hX dX2_arePairsSound_13 rfl rfl (r_aload_n hX dX2_arePairsSound_14 rfl rfl (r_get hX kf_X2_20 0 rfl rfl dX2_arePairsSound_15 (r_alen (v := iZ 4) hX 3 2 rfl rfl rfl dX2_arePairsSound_18 (r_icmp_geZ (tgt := 52) hX dX2_arePairsSound_19 (by decide) (by decide) (by decide) (fun q => absurd q (by decide)) (fun _ => ?_)))))))
  refine r_aload_n hX dX2_arePairsSound_22 rfl rfl (r_get hX kf_X2_20 0 rfl rfl dX2_arePairsSound_23 (r_iload_n hX dX2_arePairsSound_26 rfl rfl (r_callS hX (z_X2_at_ok ad cs _ 3 _ 4 0 rfl (by decide) _ 0 (by first | with_reducible assumption | decide | omega) (by decide)) ks_X2_84 rfl rfl (Nat.le_of_ble_eq_true rfl) ⟨(Nat.le_of_ble_eq_true rfl), (Nat.le_of_ble_eq_true rfl)⟩ ⟨(Nat.le_of_ble_eq_true rfl), (Nat.le_of_ble_eq_true rfl)⟩ dX2_arePairsSound_27 (fun _ _ z => False.elim z) (fun v9 ws9 h1 => ?_))))
  obtain ⟨rfl, hw9⟩ := h1
  subst ws9
  dsimp only [mPush]
  refine r_aload_n hX dX2_arePairsSound_30 rfl rfl (r_get hX kf_X2_20 0 rfl rfl dX2_arePairsSound_31 (r_iload_n hX dX2_arePairsSound_34 rfl rfl (r_callS hX (z_X2_at_ok ad cs _ 3 _ 4 0 rfl (by decide) _ 0 (by first | with_reducible assumption | decide | omega) (by decide)) ks_X2_84 rfl rfl (Nat.le_of_ble_eq_true rfl) ⟨(Nat.le_of_ble_eq_true rfl), (Nat.le_of_ble_eq_true rfl)⟩ ⟨(Nat.le_of_ble_eq_true rfl), (Nat.le_of_ble_eq_true rfl)⟩ dX2_arePairsSound_35 (fun _ _ z => False.elim z) (fun v9 ws9 h2 => ?_))))
  obtain ⟨rfl, hw9⟩ := h2
  subst ws9
  dsimp only [mPush]
  refine r_callS hX (z_X2_isPairSound _ _ (0 + 5) _ _ _ _ (zWd_loc (d := 0) (by decide)) (zrg hS (by decide)) (0 + 5) _ _ _ _ (zWd_loc (d := 0) (by decide)) (zrg hS (by decide))) ks_X2_370 rfl rfl (Nat.le_of_ble_eq_true rfl) ⟨(Nat.le_of_ble_eq_true rfl), (Nat.le_of_ble_eq_true rfl)⟩ ⟨(Nat.le_of_ble_eq_true rfl), (Nat.le_of_ble_eq_true rfl)⟩ dX2_arePairsSound_38 (fun _ _ z => False.elim z) (fun v9 ws9 h3 => ?_)
  obtain ⟨rfl, hw9⟩ := h3
  subst ws9
  dsimp only [mPush]
  refine r_if_neB (tgt := 46) hX dX2_arePairsSound_41 (by decide) (fun _ => ?_) (fun q => absurd q (by decide))
  refine r_iincZ (z := 1) (y := 1) hX dX2_arePairsSound_46 rfl (by decide) rfl rfl (r_goto (tgt := 13) hX dX2_arePairsSound_49 (by decide) (r_iload_n hX dX2_arePairsSound_13 rfl rfl (r_aload_n hX dX2_arePairsSound_14 rfl rfl (r_get hX kf_X2_20 0 rfl rfl dX2_arePairsSound_15 (r_alen (v := iZ 4) hX 3 2 rfl rfl rfl dX2_arePairsSound_18 (r_icmp_geZ (tgt := 52) hX dX2_arePairsSound_19 (by decide) (by decide) (by decide) (fun q => absurd q (by decide)) (fun _ => ?_)))))))
  refine r_aload_n hX dX2_arePairsSound_22 rfl rfl (r_get hX kf_X2_20 0 rfl rfl dX2_arePairsSound_23 (r_iload_n hX dX2_arePairsSound_26 rfl rfl (r_callS hX (z_X2_at_ok ad cs _ 3 _ 4 0 rfl (by decide) _ 0 (by first | with_reducible assumption | decide | omega) (by decide)) ks_X2_84 rfl rfl (Nat.le_of_ble_eq_true rfl) ⟨(Nat.le_of_ble_eq_true rfl), (Nat.le_of_ble_eq_true rfl)⟩ ⟨(Nat.le_of_ble_eq_true rfl), (Nat.le_of_ble_eq_true rfl)⟩ dX2_arePairsSound_27 (fun _ _ z => False.elim z) (fun v9 ws9 h4 => ?_))))
  obtain ⟨rfl, hw9⟩ := h4
  subst ws9
  dsimp only [mPush]
  refine r_aload_n hX dX2_arePairsSound_30 rfl rfl (r_get hX kf_X2_20 0 rfl rfl dX2_arePairsSound_31 (r_iload_n hX dX2_arePairsSound_34 rfl rfl (r_callS hX (z_X2_at_ok ad cs _ 3 _ 4 0 rfl (by decide) _ 1 (by first | with_reducible assumption | decide | omega) (by decide)) ks_X2_84 rfl rfl (Nat.le_of_ble_eq_true rfl) ⟨(Nat.le_of_ble_eq_true rfl), (Nat.le_of_ble_eq_true rfl)⟩ ⟨(Nat.le_of_ble_eq_true rfl), (Nat.le_of_ble_eq_true rfl)⟩ dX2_arePairsSound_35 (fun _ _ z => False.elim z) (fun v9 ws9 h5 => ?_))))
  obtain ⟨rfl, hw9⟩ := h5
  subst ws9
  dsimp only [mPush]
  refine r_callS hX (z_X2_isPairSound _ _ (0 + 5) _ _ _ _ (zWd_loc (d := 0) (by decide)) (zrg hS (by decide)) (1 + 5) _ _ _ _ (zWd_loc (d := 1) (by decide)) (zrg hS (by decide))) ks_X2_370 rfl rfl (Nat.le_of_ble_eq_true rfl) ⟨(Nat.le_of_ble_eq_true rfl), (Nat.le_of_ble_eq_true rfl)⟩ ⟨(Nat.le_of_ble_eq_true rfl), (Nat.le_of_ble_eq_true rfl)⟩ dX2_arePairsSound_38 (fun _ _ z => False.elim z) (fun v9 ws9 h6 => ?_)
  obtain ⟨rfl, hw9⟩ := h6
  subst ws9
  dsimp only [mPush]
  refine r_if_neB (tgt := 46) hX dX2_arePairsSound_41 (by decide) (fun _ => ?_) (fun q => absurd q (by decide))
  refine r_iincZ (z := 1) (y := 2) hX dX2_arePairsSound_46 rfl (by decide) rfl rfl (r_goto (tgt := 13) hX dX2_arePairsSound_49 (by decide) (r_iload_n hX dX2_arePairsSound_13 rfl rfl (r_aload_n hX dX2_arePairsSound_14 rfl rfl (r_get hX kf_X2_20 0 rfl rfl dX2_arePairsSound_15 (r_alen (v := iZ 4) hX 3 2 rfl rfl rfl dX2_arePairsSound_18 (r_icmp_geZ (tgt := 52) hX dX2_arePairsSound_19 (by decide) (by decide) (by decide) (fun q => absurd q (by decide)) (fun _ => ?_)))))))
  refine r_aload_n hX dX2_arePairsSound_22 rfl rfl (r_get hX kf_X2_20 0 rfl rfl dX2_arePairsSound_23 (r_iload_n hX dX2_arePairsSound_26 rfl rfl (r_callS hX (z_X2_at_ok ad cs _ 3 _ 4 0 rfl (by decide) _ 0 (by first | with_reducible assumption | decide | omega) (by decide)) ks_X2_84 rfl rfl (Nat.le_of_ble_eq_true rfl) ⟨(Nat.le_of_ble_eq_true rfl), (Nat.le_of_ble_eq_true rfl)⟩ ⟨(Nat.le_of_ble_eq_true rfl), (Nat.le_of_ble_eq_true rfl)⟩ dX2_arePairsSound_27 (fun _ _ z => False.elim z) (fun v9 ws9 h7 => ?_))))
  obtain ⟨rfl, hw9⟩ := h7
  subst ws9
  dsimp only [mPush]
  refine r_aload_n hX dX2_arePairsSound_30 rfl rfl (r_get hX kf_X2_20 0 rfl rfl dX2_arePairsSound_31 (r_iload_n hX dX2_arePairsSound_34 rfl rfl (r_callS hX (z_X2_at_ok ad cs _ 3 _ 4 0 rfl (by decide) _ 2 (by first | with_reducible assumption | decide | omega) (by decide)) ks_X2_84 rfl rfl (Nat.le_of_ble_eq_true rfl) ⟨(Nat.le_of_ble_eq_true rfl), (Nat.le_of_ble_eq_true rfl)⟩ ⟨(Nat.le_of_ble_eq_true rfl), (Nat.le_of_ble_eq_true rfl)⟩ dX2_arePairsSound_35 (fun _ _ z => False.elim z) (fun v9 ws9 h8 => ?_))))
  obtain ⟨rfl, hw9⟩ := h8
  subst ws9
  dsimp only [mPush]
  refine r_callS hX (z_X2_isPairSound _ _ (0 + 5) _ _ _ _ (zWd_loc (d := 0) (by decide)) (zrg hS (by decide)) (2 + 5) _ _ _ _ (zWd_loc (d := 2) (by decide)) (zrg hS (by decide))) ks_X2_370 rfl rfl (Nat.le_of_ble_eq_true rfl) ⟨(Nat.le_of_ble_eq_true rfl), (Nat.le_of_ble_eq_true rfl)⟩ ⟨(Nat.le_of_ble_eq_true rfl), (Nat.le_of_ble_eq_true rfl)⟩ dX2_arePairsSound_38 (fun _ _ z => False.elim z) (fun v9 ws9 h9 => ?_)
  obtain ⟨rfl, hw9⟩ := h9
  subst ws9
  dsimp only [mPush]
  refine r_if_neB (tgt := 46) hX dX2_arePairsSound_41 (by decide) (fun _ => ?_) (fun q => absurd q (by decide))
  refine r_iincZ (z := 1) (y := 3) hX dX2_arePairsSound_46 rfl (by decide) rfl rfl (r_goto (tgt := 13) hX dX2_arePairsSound_49 (by decide) (r_iload_n hX dX2_arePairsSound_13 rfl rfl (r_aload_n hX dX2_arePairsSound_14 rfl rfl (r_get hX kf_X2_20 0 rfl rfl dX2_arePairsSound_15 (r_alen (v := iZ 4) hX 3 2 rfl rfl rfl dX2_arePairsSound_18 (r_icmp_geZ (tgt := 52) hX dX2_arePairsSound_19 (by decide) (by decide) (by decide) (fun q => absurd q (by decide)) (fun _ => ?_)))))))
  refine r_aload_n hX dX2_arePairsSound_22 rfl rfl (r_get hX kf_X2_20 0 rfl rfl dX2_arePairsSound_23 (r_iload_n hX dX2_arePairsSound_26 rfl rfl (r_callS hX (z_X2_at_ok ad cs _ 3 _ 4 0 rfl (by decide) _ 0 (by first | with_reducible assumption | decide | omega) (by decide)) ks_X2_84 rfl rfl (Nat.le_of_ble_eq_true rfl) ⟨(Nat.le_of_ble_eq_true rfl), (Nat.le_of_ble_eq_true rfl)⟩ ⟨(Nat.le_of_ble_eq_true rfl), (Nat.le_of_ble_eq_true rfl)⟩ dX2_arePairsSound_27 (fun _ _ z => False.elim z) (fun v9 ws9 h10 => ?_))))
  obtain ⟨rfl, hw9⟩ := h10
  subst ws9
  dsimp only [mPush]
  refine r_aload_n hX dX2_arePairsSound_30 rfl rfl (r_get hX kf_X2_20 0 rfl rfl dX2_arePairsSound_31 (r_iload_n hX dX2_arePairsSound_34 rfl rfl (r_callS hX (z_X2_at_ok ad cs _ 3 _ 4 0 rfl (by decide) _ 3 (by first | with_reducible assumption | decide | omega) (by decide)) ks_X2_84 rfl rfl (Nat.le_of_ble_eq_true rfl) ⟨(Nat.le_of_ble_eq_true rfl), (Nat.le_of_ble_eq_true rfl)⟩ ⟨(Nat.le_of_ble_eq_true rfl), (Nat.le_of_ble_eq_true rfl)⟩ dX2_arePairsSound_35 (fun _ _ z => False.elim z) (fun v9 ws9 h11 => ?_))))
  obtain ⟨rfl, hw9⟩ := h11
  subst ws9
  dsimp only [mPush]
  refine r_callS hX (z_X2_isPairSound _ _ (0 + 5) _ _ _ _ (zWd_loc (d := 0) (by decide)) (zrg hS (by decide)) (3 + 5) _ _ _ _ (zWd_loc (d := 3) (by decide)) (zrg hS (by decide))) ks_X2_370 rfl rfl (Nat.le_of_ble_eq_true rfl) ⟨(Nat.le_of_ble_eq_true rfl), (Nat.le_of_ble_eq_true rfl)⟩ ⟨(Nat.le_of_ble_eq_true rfl), (Nat.le_of_ble_eq_true rfl)⟩ dX2_arePairsSound_38 (fun _ _ z => False.elim z) (fun v9 ws9 h12 => ?_)
  obtain ⟨rfl, hw9⟩ := h12
  subst ws9
  dsimp only [mPush]
  refine r_if_neB (tgt := 46) hX dX2_arePairsSound_41 (by decide) (fun _ => ?_) (fun q => absurd q (by decide))
  refine r_iincZ (z := 1) (y := 4) hX dX2_arePairsSound_46 rfl (by decide) rfl rfl (r_goto (tgt := 13) hX dX2_arePairsSound_49 (by decide) (r_iload_n hX dX2_arePairsSound_13 rfl rfl (r_aload_n hX dX2_arePairsSound_14 rfl rfl (r_get hX kf_X2_20 0 rfl rfl dX2_arePairsSound_15 (r_alen (v := iZ 4) hX 3 2 rfl rfl rfl dX2_arePairsSound_18 (r_icmp_geZ (tgt := 52) hX dX2_arePairsSound_19 (by decide) (by decide) (by decide) (fun _ => ?_) (fun q => absurd (by decide) q)))))))
  refine r_iincZ (z := 1) (y := 1) hX dX2_arePairsSound_52 rfl (by decide) rfl rfl (r_goto (tgt := 2) hX dX2_arePairsSound_55 (by decide) (r_iload_n hX dX2_arePairsSound_2 rfl rfl (r_aload_n hX dX2_arePairsSound_3 rfl rfl (r_get hX kf_X2_20 0 rfl rfl dX2_arePairsSound_4 (r_alen (v := iZ 4) hX 3 2 rfl rfl rfl dX2_arePairsSound_7 (r_icmp_geZ (tgt := 58) hX dX2_arePairsSound_8 (by decide) (by decide) (by decide) (fun q => absurd q (by decide)) (fun _ => ?_)))))))
  refine r_iconstZ hX dX2_arePairsSound_11 (r_istore_n hX dX2_arePairsSound_12 rfl (by decide) rfl (r_iload_n hX dX2_arePairsSound_13 rfl rfl (r_aload_n hX dX2_arePairsSound_14 rfl rfl (r_get hX kf_X2_20 0 rfl rfl dX2_arePairsSound_15 (r_alen (v := iZ 4) hX 3 2 rfl rfl rfl dX2_arePairsSound_18 (r_icmp_geZ (tgt := 52) hX dX2_arePairsSound_19 (by decide) (by decide) (by decide) (fun q => absurd q (by decide)) (fun _ => ?_)))))))
  refine r_aload_n hX dX2_arePairsSound_22 rfl rfl (r_get hX kf_X2_20 0 rfl rfl dX2_arePairsSound_23 (r_iload_n hX dX2_arePairsSound_26 rfl rfl (r_callS hX (z_X2_at_ok ad cs _ 3 _ 4 0 rfl (by decide) _ 1 (by first | with_reducible assumption | decide | omega) (by decide)) ks_X2_84 rfl rfl (Nat.le_of_ble_eq_true rfl) ⟨(Nat.le_of_ble_eq_true rfl), (Nat.le_of_ble_eq_true rfl)⟩ ⟨(Nat.le_of_ble_eq_true rfl), (Nat.le_of_ble_eq_true rfl)⟩ dX2_arePairsSound_27 (fun _ _ z => False.elim z) (fun v9 ws9 h13 => ?_))))
  obtain ⟨rfl, hw9⟩ := h13
  subst ws9
  dsimp only [mPush]
  refine r_aload_n hX dX2_arePairsSound_30 rfl rfl (r_get hX kf_X2_20 0 rfl rfl dX2_arePairsSound_31 (r_iload_n hX dX2_arePairsSound_34 rfl rfl (r_callS hX (z_X2_at_ok ad cs _ 3 _ 4 0 rfl (by decide) _ 0 (by first | with_reducible assumption | decide | omega) (by decide)) ks_X2_84 rfl rfl (Nat.le_of_ble_eq_true rfl) ⟨(Nat.le_of_ble_eq_true rfl), (Nat.le_of_ble_eq_true rfl)⟩ ⟨(Nat.le_of_ble_eq_true rfl), (Nat.le_of_ble_eq_true rfl)⟩ dX2_arePairsSound_35 (fun _ _ z => False.elim z) (fun v9 ws9 h14 => ?_))))
  obtain ⟨rfl, hw9⟩ := h14
  subst ws9
  dsimp only [mPush]
  refine r_callS hX (z_X2_isPairSound _ _ (1 + 5) _ _ _ _ (zWd_loc (d := 1) (by decide)) (zrg hS (by decide)) (0 + 5) _ _ _ _ (zWd_loc (d := 0) (by decide)) (zrg hS (by decide))) ks_X2_370 rfl rfl (Nat.le_of_ble_eq_true rfl) ⟨(Nat.le_of_ble_eq_true rfl), (Nat.le_of_ble_eq_true rfl)⟩ ⟨(Nat.le_of_ble_eq_true rfl), (Nat.le_of_ble_eq_true rfl)⟩ dX2_arePairsSound_38 (fun _ _ z => False.elim z) (fun v9 ws9 h15 => ?_)
  obtain ⟨rfl, hw9⟩ := h15
  subst ws9
  dsimp only [mPush]
  refine r_if_neB (tgt := 46) hX dX2_arePairsSound_41 (by decide) (fun _ => ?_) (fun q => absurd q (by decide))
  refine r_iincZ (z := 1) (y := 1) hX dX2_arePairsSound_46 rfl (by decide) rfl rfl (r_goto (tgt := 13) hX dX2_arePairsSound_49 (by decide) (r_iload_n hX dX2_arePairsSound_13 rfl rfl (r_aload_n hX dX2_arePairsSound_14 rfl rfl (r_get hX kf_X2_20 0 rfl rfl dX2_arePairsSound_15 (r_alen (v := iZ 4) hX 3 2 rfl rfl rfl dX2_arePairsSound_18 (r_icmp_geZ (tgt := 52) hX dX2_arePairsSound_19 (by decide) (by decide) (by decide) (fun q => absurd q (by decide)) (fun _ => ?_)))))))
  refine r_aload_n hX dX2_arePairsSound_22 rfl rfl (r_get hX kf_X2_20 0 rfl rfl dX2_arePairsSound_23 (r_iload_n hX dX2_arePairsSound_26 rfl rfl (r_callS hX (z_X2_at_ok ad cs _ 3 _ 4 0 rfl (by decide) _ 1 (by first | with_reducible assumption | decide | omega) (by decide)) ks_X2_84 rfl rfl (Nat.le_of_ble_eq_true rfl) ⟨(Nat.le_of_ble_eq_true rfl), (Nat.le_of_ble_eq_true rfl)⟩ ⟨(Nat.le_of_ble_eq_true rfl), (Nat.le_of_ble_eq_true rfl)⟩ dX2_arePairsSound_27 (fun _ _ z => False.elim z) (fun v9 ws9 h16 => ?_))))
  obtain ⟨rfl, hw9⟩ := h16
  subst ws9
  dsimp only [mPush]
  refine r_aload_n hX dX2_arePairsSound_30 rfl rfl (r_get hX kf_X2_20 0 rfl rfl dX2_arePairsSound_31 (r_iload_n hX dX2_arePairsSound_34 rfl rfl (r_callS hX (z_X2_at_ok ad cs _ 3 _ 4 0 rfl (by decide) _ 1 (by first | with_reducible assumption | decide | omega) (by decide)) ks_X2_84 rfl rfl (Nat.le_of_ble_eq_true rfl) ⟨(Nat.le_of_ble_eq_true rfl), (Nat.le_of_ble_eq_true rfl)⟩ ⟨(Nat.le_of_ble_eq_true rfl), (Nat.le_of_ble_eq_true rfl)⟩ dX2_arePairsSound_35 (fun _ _ z => False.elim z) (fun v9 ws9 h17 => ?_))))
  obtain ⟨rfl, hw9⟩ := h17
  subst ws9
  dsimp only [mPush]
  refine r_callS hX (z_X2_isPairSound _ _ (1 + 5) _ _ _ _ (zWd_loc (d := 1) (by decide)) (zrg hS (by decide)) (1 + 5) _ _ _ _ (zWd_loc (d := 1) (by decide)) (zrg hS (by decide))) ks_X2_370 rfl rfl (Nat.le_of_ble_eq_true rfl) ⟨(Nat.le_of_ble_eq_true rfl), (Nat.le_of_ble_eq_true rfl)⟩ ⟨(Nat.le_of_ble_eq_true rfl), (Nat.le_of_ble_eq_true rfl)⟩ dX2_arePairsSound_38 (fun _ _ z => False.elim z) (fun v9 ws9 h18 => ?_)
  obtain ⟨rfl, hw9⟩ := h18
  subst ws9
  dsimp only [mPush]
  refine r_if_neB (tgt := 46) hX dX2_arePairsSound_41 (by decide) (fun _ => ?_) (fun q => absurd q (by decide))
  refine r_iincZ (z := 1) (y := 2) hX dX2_arePairsSound_46 rfl (by decide) rfl rfl (r_goto (tgt := 13) hX dX2_arePairsSound_49 (by decide) (r_iload_n hX dX2_arePairsSound_13 rfl rfl (r_aload_n hX dX2_arePairsSound_14 rfl rfl (r_get hX kf_X2_20 0 rfl rfl dX2_arePairsSound_15 (r_alen (v := iZ 4) hX 3 2 rfl rfl rfl dX2_arePairsSound_18 (r_icmp_geZ (tgt := 52) hX dX2_arePairsSound_19 (by decide) (by decide) (by decide) (fun q => absurd q (by decide)) (fun _ => ?_)))))))
  refine r_aload_n hX dX2_arePairsSound_22 rfl rfl (r_get hX kf_X2_20 0 rfl rfl dX2_arePairsSound_23 (r_iload_n hX dX2_arePairsSound_26 rfl rfl (r_callS hX (z_X2_at_ok ad cs _ 3 _ 4 0 rfl (by decide) _ 1 (by first | with_reducible assumption | decide | omega) (by decide)) ks_X2_84 rfl rfl (Nat.le_of_ble_eq_true rfl) ⟨(Nat.le_of_ble_eq_true rfl), (Nat.le_of_ble_eq_true rfl)⟩ ⟨(Nat.le_of_ble_eq_true rfl), (Nat.le_of_ble_eq_true rfl)⟩ dX2_arePairsSound_27 (fun _ _ z => False.elim z) (fun v9 ws9 h19 => ?_))))
  obtain ⟨rfl, hw9⟩ := h19
  subst ws9
  dsimp only [mPush]
  refine r_aload_n hX dX2_arePairsSound_30 rfl rfl (r_get hX kf_X2_20 0 rfl rfl dX2_arePairsSound_31 (r_iload_n hX dX2_arePairsSound_34 rfl rfl (r_callS hX (z_X2_at_ok ad cs _ 3 _ 4 0 rfl (by decide) _ 2 (by first | with_reducible assumption | decide | omega) (by decide)) ks_X2_84 rfl rfl (Nat.le_of_ble_eq_true rfl) ⟨(Nat.le_of_ble_eq_true rfl), (Nat.le_of_ble_eq_true rfl)⟩ ⟨(Nat.le_of_ble_eq_true rfl), (Nat.le_of_ble_eq_true rfl)⟩ dX2_arePairsSound_35 (fun _ _ z => False.elim z) (fun v9 ws9 h20 => ?_))))
  obtain ⟨rfl, hw9⟩ := h20
  subst ws9
  dsimp only [mPush]
  refine r_callS hX (z_X2_isPairSound _ _ (1 + 5) _ _ _ _ (zWd_loc (d := 1) (by decide)) (zrg hS (by decide)) (2 + 5) _ _ _ _ (zWd_loc (d := 2) (by decide)) (zrg hS (by decide))) ks_X2_370 rfl rfl (Nat.le_of_ble_eq_true rfl) ⟨(Nat.le_of_ble_eq_true rfl), (Nat.le_of_ble_eq_true rfl)⟩ ⟨(Nat.le_of_ble_eq_true rfl), (Nat.le_of_ble_eq_true rfl)⟩ dX2_arePairsSound_38 (fun _ _ z => False.elim z) (fun v9 ws9 h21 => ?_)
  obtain ⟨rfl, hw9⟩ := h21
  subst ws9
  dsimp only [mPush]
  refine r_if_neB (tgt := 46) hX dX2_arePairsSound_41 (by decide) (fun _ => ?_) (fun q => absurd q (by decide))
  refine r_iincZ (z := 1) (y := 3) hX dX2_arePairsSound_46 rfl (by decide) rfl rfl (r_goto (tgt := 13) hX dX2_arePairsSound_49 (by decide) (r_iload_n hX dX2_arePairsSound_13 rfl rfl (r_aload_n hX dX2_arePairsSound_14 rfl rfl (r_get hX kf_X2_20 0 rfl rfl dX2_arePairsSound_15 (r_alen (v := iZ 4) hX 3 2 rfl rfl rfl dX2_arePairsSound_18 (r_icmp_geZ (tgt := 52) hX dX2_arePairsSound_19 (by decide) (by decide) (by decide) (fun q => absurd q (by decide)) (fun _ => ?_)))))))
  refine r_aload_n hX dX2_arePairsSound_22 rfl rfl (r_get hX kf_X2_20 0 rfl rfl dX2_arePairsSound_23 (r_iload_n hX dX2_arePairsSound_26 rfl rfl (r_callS hX (z_X2_at_ok ad cs _ 3 _ 4 0 rfl (by decide) _ 1 (by first | with_reducible assumption | decide | omega) (by decide)) ks_X2_84 rfl rfl (Nat.le_of_ble_eq_true rfl) ⟨(Nat.le_of_ble_eq_true rfl), (Nat.le_of_ble_eq_true rfl)⟩ ⟨(Nat.le_of_ble_eq_true rfl), (Nat.le_of_ble_eq_true rfl)⟩ dX2_arePairsSound_27 (fun _ _ z => False.elim z) (fun v9 ws9 h22 => ?_))))
  obtain ⟨rfl, hw9⟩ := h22
  subst ws9
  dsimp only [mPush]
  refine r_aload_n hX dX2_arePairsSound_30 rfl rfl (r_get hX kf_X2_20 0 rfl rfl dX2_arePairsSound_31 (r_iload_n hX dX2_arePairsSound_34 rfl rfl (r_callS hX (z_X2_at_ok ad cs _ 3 _ 4 0 rfl (by decide) _ 3 (by first | with_reducible assumption | decide | omega) (by decide)) ks_X2_84 rfl rfl (Nat.le_of_ble_eq_true rfl) ⟨(Nat.le_of_ble_eq_true rfl), (Nat.le_of_ble_eq_true rfl)⟩ ⟨(Nat.le_of_ble_eq_true rfl), (Nat.le_of_ble_eq_true rfl)⟩ dX2_arePairsSound_35 (fun _ _ z => False.elim z) (fun v9 ws9 h23 => ?_))))
  obtain ⟨rfl, hw9⟩ := h23
  subst ws9
  dsimp only [mPush]
  refine r_callS hX (z_X2_isPairSound _ _ (1 + 5) _ _ _ _ (zWd_loc (d := 1) (by decide)) (zrg hS (by decide)) (3 + 5) _ _ _ _ (zWd_loc (d := 3) (by decide)) (zrg hS (by decide))) ks_X2_370 rfl rfl (Nat.le_of_ble_eq_true rfl) ⟨(Nat.le_of_ble_eq_true rfl), (Nat.le_of_ble_eq_true rfl)⟩ ⟨(Nat.le_of_ble_eq_true rfl), (Nat.le_of_ble_eq_true rfl)⟩ dX2_arePairsSound_38 (fun _ _ z => False.elim z) (fun v9 ws9 h24 => ?_)
  obtain ⟨rfl, hw9⟩ := h24
  subst ws9
  dsimp only [mPush]
  refine r_if_neB (tgt := 46) hX dX2_arePairsSound_41 (by decide) (fun _ => ?_) (fun q => absurd q (by decide))
  refine r_iincZ (z := 1) (y := 4) hX dX2_arePairsSound_46 rfl (by decide) rfl rfl (r_lc3 (i0 := 0) (i1 := 1) (i2 := 2) rfl rfl rfl (r_goto (tgt := 13) hX dX2_arePairsSound_49 (by decide) (r_iload_n hX dX2_arePairsSound_13 rfl rfl (r_aload_n hX dX2_arePairsSound_14 rfl rfl (r_get hX kf_X2_20 0 rfl rfl dX2_arePairsSound_15 (r_alen (v := iZ 4) hX 3 2 rfl rfl rfl dX2_arePairsSound_18 (r_icmp_geZ (tgt := 52) hX dX2_arePairsSound_19 (by decide) (by decide) (by decide) (fun _ => ?_) (fun q => absurd (by decide) q))))))))
  refine r_iincZ (z := 1) (y := 2) hX dX2_arePairsSound_52 rfl (by decide) rfl rfl (r_goto (tgt := 2) hX dX2_arePairsSound_55 (by decide) (r_iload_n hX dX2_arePairsSound_2 rfl rfl (r_aload_n hX dX2_arePairsSound_3 rfl rfl (r_get hX kf_X2_20 0 rfl rfl dX2_arePairsSound_4 (r_alen (v := iZ 4) hX 3 2 rfl rfl rfl dX2_arePairsSound_7 (r_icmp_geZ (tgt := 58) hX dX2_arePairsSound_8 (by decide) (by decide) (by decide) (fun q => absurd q (by decide)) (fun _ => ?_)))))))
  refine r_iconstZ hX dX2_arePairsSound_11 (r_istore_n hX dX2_arePairsSound_12 rfl (by decide) rfl (r_iload_n hX dX2_arePairsSound_13 rfl rfl (r_aload_n hX dX2_arePairsSound_14 rfl rfl (r_get hX kf_X2_20 0 rfl rfl dX2_arePairsSound_15 (r_alen (v := iZ 4) hX 3 2 rfl rfl rfl dX2_arePairsSound_18 (r_icmp_geZ (tgt := 52) hX dX2_arePairsSound_19 (by decide) (by decide) (by decide) (fun q => absurd q (by decide)) (fun _ => ?_)))))))
  refine r_aload_n hX dX2_arePairsSound_22 rfl rfl (r_get hX kf_X2_20 0 rfl rfl dX2_arePairsSound_23 (r_iload_n hX dX2_arePairsSound_26 rfl rfl (r_callS hX (z_X2_at_ok ad cs _ 3 _ 4 0 rfl (by decide) _ 2 (by first | with_reducible assumption | decide | omega) (by decide)) ks_X2_84 rfl rfl (Nat.le_of_ble_eq_true rfl) ⟨(Nat.le_of_ble_eq_true rfl), (Nat.le_of_ble_eq_true rfl)⟩ ⟨(Nat.le_of_ble_eq_true rfl), (Nat.le_of_ble_eq_true rfl)⟩ dX2_arePairsSound_27 (fun _ _ z => False.elim z) (fun v9 ws9 h25 => ?_))))
  obtain ⟨rfl, hw9⟩ := h25
  subst ws9
  dsimp only [mPush]
  refine r_aload_n hX dX2_arePairsSound_30 rfl rfl (r_get hX kf_X2_20 0 rfl rfl dX2_arePairsSound_31 (r_iload_n hX dX2_arePairsSound_34 rfl rfl (r_callS hX (z_X2_at_ok ad cs _ 3 _ 4 0 rfl (by decide) _ 0 (by first | with_reducible assumption | decide | omega) (by decide)) ks_X2_84 rfl rfl (Nat.le_of_ble_eq_true rfl) ⟨(Nat.le_of_ble_eq_true rfl), (Nat.le_of_ble_eq_true rfl)⟩ ⟨(Nat.le_of_ble_eq_true rfl), (Nat.le_of_ble_eq_true rfl)⟩ dX2_arePairsSound_35 (fun _ _ z => False.elim z) (fun v9 ws9 h26 => ?_))))
  obtain ⟨rfl, hw9⟩ := h26
  subst ws9
  dsimp only [mPush]
  refine r_callS hX (z_X2_isPairSound _ _ (2 + 5) _ _ _ _ (zWd_loc (d := 2) (by decide)) (zrg hS (by decide)) (0 + 5) _ _ _ _ (zWd_loc (d := 0) (by decide)) (zrg hS (by decide))) ks_X2_370 rfl rfl (Nat.le_of_ble_eq_true rfl) ⟨(Nat.le_of_ble_eq_true rfl), (Nat.le_of_ble_eq_true rfl)⟩ ⟨(Nat.le_of_ble_eq_true rfl), (Nat.le_of_ble_eq_true rfl)⟩ dX2_arePairsSound_38 (fun _ _ z => False.elim z) (fun v9 ws9 h27 => ?_)
  obtain ⟨rfl, hw9⟩ := h27
  subst ws9
  dsimp only [mPush]
  refine r_if_neB (tgt := 46) hX dX2_arePairsSound_41 (by decide) (fun _ => ?_) (fun q => absurd q (by decide))
  refine r_iincZ (z := 1) (y := 1) hX dX2_arePairsSound_46 rfl (by decide) rfl rfl (r_goto (tgt := 13) hX dX2_arePairsSound_49 (by decide) (r_iload_n hX dX2_arePairsSound_13 rfl rfl (r_aload_n hX dX2_arePairsSound_14 rfl rfl (r_get hX kf_X2_20 0 rfl rfl dX2_arePairsSound_15 (r_alen (v := iZ 4) hX 3 2 rfl rfl rfl dX2_arePairsSound_18 (r_icmp_geZ (tgt := 52) hX dX2_arePairsSound_19 (by decide) (by decide) (by decide) (fun q => absurd q (by decide)) (fun _ => ?_)))))))
  refine r_aload_n hX dX2_arePairsSound_22 rfl rfl (r_get hX kf_X2_20 0 rfl rfl dX2_arePairsSound_23 (r_iload_n hX dX2_arePairsSound_26 rfl rfl (r_callS hX (z_X2_at_ok ad cs _ 3 _ 4 0 rfl (by decide) _ 2 (by first | with_reducible assumption | decide | omega) (by decide)) ks_X2_84 rfl rfl (Nat.le_of_ble_eq_true rfl) ⟨(Nat.le_of_ble_eq_true rfl), (Nat.le_of_ble_eq_true rfl)⟩ ⟨(Nat.le_of_ble_eq_true rfl), (Nat.le_of_ble_eq_true rfl)⟩ dX2_arePairsSound_27 (fun _ _ z => False.elim z) (fun v9 ws9 h28 => ?_))))
  obtain ⟨rfl, hw9⟩ := h28
  subst ws9
  dsimp only [mPush]
  refine r_aload_n hX dX2_arePairsSound_30 rfl rfl (r_get hX kf_X2_20 0 rfl rfl dX2_arePairsSound_31 (r_iload_n hX dX2_arePairsSound_34 rfl rfl (r_callS hX (z_X2_at_ok ad cs _ 3 _ 4 0 rfl (by decide) _ 1 (by first | with_reducible assumption | decide | omega) (by decide)) ks_X2_84 rfl rfl (Nat.le_of_ble_eq_true rfl) ⟨(Nat.le_of_ble_eq_true rfl), (Nat.le_of_ble_eq_true rfl)⟩ ⟨(Nat.le_of_ble_eq_true rfl), (Nat.le_of_ble_eq_true rfl)⟩ dX2_arePairsSound_35 (fun _ _ z => False.elim z) (fun v9 ws9 h29 => ?_))))
  obtain ⟨rfl, hw9⟩ := h29
  subst ws9
  dsimp only [mPush]
  refine r_callS hX (z_X2_isPairSound _ _ (2 + 5) _ _ _ _ (zWd_loc (d := 2) (by decide)) (zrg hS (by decide)) (1 + 5) _ _ _ _ (zWd_loc (d := 1) (by decide)) (zrg hS (by decide))) ks_X2_370 rfl rfl (Nat.le_of_ble_eq_true rfl) ⟨(Nat.le_of_ble_eq_true rfl), (Nat.le_of_ble_eq_true rfl)⟩ ⟨(Nat.le_of_ble_eq_true rfl), (Nat.le_of_ble_eq_true rfl)⟩ dX2_arePairsSound_38 (fun _ _ z => False.elim z) (fun v9 ws9 h30 => ?_)
  obtain ⟨rfl, hw9⟩ := h30
  subst ws9
  dsimp only [mPush]
  refine r_if_neB (tgt := 46) hX dX2_arePairsSound_41 (by decide) (fun _ => ?_) (fun q => absurd q (by decide))
  refine r_iincZ (z := 1) (y := 2) hX dX2_arePairsSound_46 rfl (by decide) rfl rfl (r_goto (tgt := 13) hX dX2_arePairsSound_49 (by decide) (r_iload_n hX dX2_arePairsSound_13 rfl rfl (r_aload_n hX dX2_arePairsSound_14 rfl rfl (r_get hX kf_X2_20 0 rfl rfl dX2_arePairsSound_15 (r_alen (v := iZ 4) hX 3 2 rfl rfl rfl dX2_arePairsSound_18 (r_icmp_geZ (tgt := 52) hX dX2_arePairsSound_19 (by decide) (by decide) (by decide) (fun q => absurd q (by decide)) (fun _ => ?_)))))))
  refine r_aload_n hX dX2_arePairsSound_22 rfl rfl (r_get hX kf_X2_20 0 rfl rfl dX2_arePairsSound_23 (r_iload_n hX dX2_arePairsSound_26 rfl rfl (r_callS hX (z_X2_at_ok ad cs _ 3 _ 4 0 rfl (by decide) _ 2 (by first | with_reducible assumption | decide | omega) (by decide)) ks_X2_84 rfl rfl (Nat.le_of_ble_eq_true rfl) ⟨(Nat.le_of_ble_eq_true rfl), (Nat.le_of_ble_eq_true rfl)⟩ ⟨(Nat.le_of_ble_eq_true rfl), (Nat.le_of_ble_eq_true rfl)⟩ dX2_arePairsSound_27 (fun _ _ z => False.elim z) (fun v9 ws9 h31 => ?_))))
  obtain ⟨rfl, hw9⟩ := h31
  subst ws9
  dsimp only [mPush]
  refine r_aload_n hX dX2_arePairsSound_30 rfl rfl (r_get hX kf_X2_20 0 rfl rfl dX2_arePairsSound_31 (r_iload_n hX dX2_arePairsSound_34 rfl rfl (r_callS hX (z_X2_at_ok ad cs _ 3 _ 4 0 rfl (by decide) _ 2 (by first | with_reducible assumption | decide | omega) (by decide)) ks_X2_84 rfl rfl (Nat.le_of_ble_eq_true rfl) ⟨(Nat.le_of_ble_eq_true rfl), (Nat.le_of_ble_eq_true rfl)⟩ ⟨(Nat.le_of_ble_eq_true rfl), (Nat.le_of_ble_eq_true rfl)⟩ dX2_arePairsSound_35 (fun _ _ z => False.elim z) (fun v9 ws9 h32 => ?_))))
  obtain ⟨rfl, hw9⟩ := h32
  subst ws9
  dsimp only [mPush]
  refine r_callS hX (z_X2_isPairSound _ _ (2 + 5) _ _ _ _ (zWd_loc (d := 2) (by decide)) (zrg hS (by decide)) (2 + 5) _ _ _ _ (zWd_loc (d := 2) (by decide)) (zrg hS (by decide))) ks_X2_370 rfl rfl (Nat.le_of_ble_eq_true rfl) ⟨(Nat.le_of_ble_eq_true rfl), (Nat.le_of_ble_eq_true rfl)⟩ ⟨(Nat.le_of_ble_eq_true rfl), (Nat.le_of_ble_eq_true rfl)⟩ dX2_arePairsSound_38 (fun _ _ z => False.elim z) (fun v9 ws9 h33 => ?_)
  obtain ⟨rfl, hw9⟩ := h33
  subst ws9
  dsimp only [mPush]
  refine r_if_neB (tgt := 46) hX dX2_arePairsSound_41 (by decide) (fun _ => ?_) (fun q => absurd q (by decide))
  refine r_iincZ (z := 1) (y := 3) hX dX2_arePairsSound_46 rfl (by decide) rfl rfl (r_goto (tgt := 13) hX dX2_arePairsSound_49 (by decide) (r_iload_n hX dX2_arePairsSound_13 rfl rfl (r_aload_n hX dX2_arePairsSound_14 rfl rfl (r_get hX kf_X2_20 0 rfl rfl dX2_arePairsSound_15 (r_alen (v := iZ 4) hX 3 2 rfl rfl rfl dX2_arePairsSound_18 (r_icmp_geZ (tgt := 52) hX dX2_arePairsSound_19 (by decide) (by decide) (by decide) (fun q => absurd q (by decide)) (fun _ => ?_)))))))
  refine r_aload_n hX dX2_arePairsSound_22 rfl rfl (r_get hX kf_X2_20 0 rfl rfl dX2_arePairsSound_23 (r_iload_n hX dX2_arePairsSound_26 rfl rfl (r_callS hX (z_X2_at_ok ad cs _ 3 _ 4 0 rfl (by decide) _ 2 (by first | with_reducible assumption | decide | omega) (by decide)) ks_X2_84 rfl rfl (Nat.le_of_ble_eq_true rfl) ⟨(Nat.le_of_ble_eq_true rfl), (Nat.le_of_ble_eq_true rfl)⟩ ⟨(Nat.le_of_ble_eq_true rfl), (Nat.le_of_ble_eq_true rfl)⟩ dX2_arePairsSound_27 (fun _ _ z => False.elim z) (fun v9 ws9 h34 => ?_))))
  obtain ⟨rfl, hw9⟩ := h34
  subst ws9
  dsimp only [mPush]
  refine r_aload_n hX dX2_arePairsSound_30 rfl rfl (r_get hX kf_X2_20 0 rfl rfl dX2_arePairsSound_31 (r_iload_n hX dX2_arePairsSound_34 rfl rfl (r_callS hX (z_X2_at_ok ad cs _ 3 _ 4 0 rfl (by decide) _ 3 (by first | with_reducible assumption | decide | omega) (by decide)) ks_X2_84 rfl rfl (Nat.le_of_ble_eq_true rfl) ⟨(Nat.le_of_ble_eq_true rfl), (Nat.le_of_ble_eq_true rfl)⟩ ⟨(Nat.le_of_ble_eq_true rfl), (Nat.le_of_ble_eq_true rfl)⟩ dX2_arePairsSound_35 (fun _ _ z => False.elim z) (fun v9 ws9 h35 => ?_))))
  obtain ⟨rfl, hw9⟩ := h35
  subst ws9
  dsimp only [mPush]
  refine r_callS hX (z_X2_isPairSound _ _ (2 + 5) _ _ _ _ (zWd_loc (d := 2) (by decide)) (zrg hS (by decide)) (3 + 5) _ _ _ _ (zWd_loc (d := 3) (by decide)) (zrg hS (by decide))) ks_X2_370 rfl rfl (Nat.le_of_ble_eq_true rfl) ⟨(Nat.le_of_ble_eq_true rfl), (Nat.le_of_ble_eq_true rfl)⟩ ⟨(Nat.le_of_ble_eq_true rfl), (Nat.le_of_ble_eq_true rfl)⟩ dX2_arePairsSound_38 (fun _ _ z => False.elim z) (fun v9 ws9 h36 => ?_)
  obtain ⟨rfl, hw9⟩ := h36
  subst ws9
  dsimp only [mPush]
  refine r_if_neB (tgt := 46) hX dX2_arePairsSound_41 (by decide) (fun _ => ?_) (fun q => absurd q (by decide))
  refine r_iincZ (z := 1) (y := 4) hX dX2_arePairsSound_46 rfl (by decide) rfl rfl (r_goto (tgt := 13) hX dX2_arePairsSound_49 (by decide) (r_iload_n hX dX2_arePairsSound_13 rfl rfl (r_aload_n hX dX2_arePairsSound_14 rfl rfl (r_get hX kf_X2_20 0 rfl rfl dX2_arePairsSound_15 (r_alen (v := iZ 4) hX 3 2 rfl rfl rfl dX2_arePairsSound_18 (r_icmp_geZ (tgt := 52) hX dX2_arePairsSound_19 (by decide) (by decide) (by decide) (fun _ => ?_) (fun q => absurd (by decide) q)))))))
  refine r_iincZ (z := 1) (y := 3) hX dX2_arePairsSound_52 rfl (by decide) rfl rfl (r_goto (tgt := 2) hX dX2_arePairsSound_55 (by decide) (r_iload_n hX dX2_arePairsSound_2 rfl rfl (r_aload_n hX dX2_arePairsSound_3 rfl rfl (r_get hX kf_X2_20 0 rfl rfl dX2_arePairsSound_4 (r_alen (v := iZ 4) hX 3 2 rfl rfl rfl dX2_arePairsSound_7 (r_icmp_geZ (tgt := 58) hX dX2_arePairsSound_8 (by decide) (by decide) (by decide) (fun q => absurd q (by decide)) (fun _ => ?_)))))))
  refine r_iconstZ hX dX2_arePairsSound_11 (r_istore_n hX dX2_arePairsSound_12 rfl (by decide) rfl (r_iload_n hX dX2_arePairsSound_13 rfl rfl (r_aload_n hX dX2_arePairsSound_14 rfl rfl (r_get hX kf_X2_20 0 rfl rfl dX2_arePairsSound_15 (r_alen (v := iZ 4) hX 3 2 rfl rfl rfl dX2_arePairsSound_18 (r_icmp_geZ (tgt := 52) hX dX2_arePairsSound_19 (by decide) (by decide) (by decide) (fun q => absurd q (by decide)) (fun _ => ?_)))))))
  refine r_aload_n hX dX2_arePairsSound_22 rfl rfl (r_get hX kf_X2_20 0 rfl rfl dX2_arePairsSound_23 (r_iload_n hX dX2_arePairsSound_26 rfl rfl (r_callS hX (z_X2_at_ok ad cs _ 3 _ 4 0 rfl (by decide) _ 3 (by first | with_reducible assumption | decide | omega) (by decide)) ks_X2_84 rfl rfl (Nat.le_of_ble_eq_true rfl) ⟨(Nat.le_of_ble_eq_true rfl), (Nat.le_of_ble_eq_true rfl)⟩ ⟨(Nat.le_of_ble_eq_true rfl), (Nat.le_of_ble_eq_true rfl)⟩ dX2_arePairsSound_27 (fun _ _ z => False.elim z) (fun v9 ws9 h37 => ?_))))
  obtain ⟨rfl, hw9⟩ := h37
  subst ws9
  dsimp only [mPush]
  refine r_aload_n hX dX2_arePairsSound_30 rfl rfl (r_get hX kf_X2_20 0 rfl rfl dX2_arePairsSound_31 (r_iload_n hX dX2_arePairsSound_34 rfl rfl (r_callS hX (z_X2_at_ok ad cs _ 3 _ 4 0 rfl (by decide) _ 0 (by first | with_reducible assumption | decide | omega) (by decide)) ks_X2_84 rfl rfl (Nat.le_of_ble_eq_true rfl) ⟨(Nat.le_of_ble_eq_true rfl), (Nat.le_of_ble_eq_true rfl)⟩ ⟨(Nat.le_of_ble_eq_true rfl), (Nat.le_of_ble_eq_true rfl)⟩ dX2_arePairsSound_35 (fun _ _ z => False.elim z) (fun v9 ws9 h38 => ?_))))
  obtain ⟨rfl, hw9⟩ := h38
  subst ws9
  dsimp only [mPush]
  refine r_callS hX (z_X2_isPairSound _ _ (3 + 5) _ _ _ _ (zWd_loc (d := 3) (by decide)) (zrg hS (by decide)) (0 + 5) _ _ _ _ (zWd_loc (d := 0) (by decide)) (zrg hS (by decide))) ks_X2_370 rfl rfl (Nat.le_of_ble_eq_true rfl) ⟨(Nat.le_of_ble_eq_true rfl), (Nat.le_of_ble_eq_true rfl)⟩ ⟨(Nat.le_of_ble_eq_true rfl), (Nat.le_of_ble_eq_true rfl)⟩ dX2_arePairsSound_38 (fun _ _ z => False.elim z) (fun v9 ws9 h39 => ?_)
  obtain ⟨rfl, hw9⟩ := h39
  subst ws9
  dsimp only [mPush]
  refine r_if_neB (tgt := 46) hX dX2_arePairsSound_41 (by decide) (fun _ => ?_) (fun q => absurd q (by decide))
  refine r_iincZ (z := 1) (y := 1) hX dX2_arePairsSound_46 rfl (by decide) rfl rfl (r_goto (tgt := 13) hX dX2_arePairsSound_49 (by decide) (r_iload_n hX dX2_arePairsSound_13 rfl rfl (r_aload_n hX dX2_arePairsSound_14 rfl rfl (r_get hX kf_X2_20 0 rfl rfl dX2_arePairsSound_15 (r_alen (v := iZ 4) hX 3 2 rfl rfl rfl dX2_arePairsSound_18 (r_icmp_geZ (tgt := 52) hX dX2_arePairsSound_19 (by decide) (by decide) (by decide) (fun q => absurd q (by decide)) (fun _ => ?_)))))))
  refine r_aload_n hX dX2_arePairsSound_22 rfl rfl (r_get hX kf_X2_20 0 rfl rfl dX2_arePairsSound_23 (r_iload_n hX dX2_arePairsSound_26 rfl rfl (r_callS hX (z_X2_at_ok ad cs _ 3 _ 4 0 rfl (by decide) _ 3 (by first | with_reducible assumption | decide | omega) (by decide)) ks_X2_84 rfl rfl (Nat.le_of_ble_eq_true rfl) ⟨(Nat.le_of_ble_eq_true rfl), (Nat.le_of_ble_eq_true rfl)⟩ ⟨(Nat.le_of_ble_eq_true rfl), (Nat.le_of_ble_eq_true rfl)⟩ dX2_arePairsSound_27 (fun _ _ z => False.elim z) (fun v9 ws9 h40 => ?_))))
  obtain ⟨rfl, hw9⟩ := h40
  subst ws9
  dsimp only [mPush]
  refine r_aload_n hX dX2_arePairsSound_30 rfl rfl (r_get hX kf_X2_20 0 rfl rfl dX2_arePairsSound_31 (r_iload_n hX dX2_arePairsSound_34 rfl rfl (r_callS hX (z_X2_at_ok ad cs _ 3 _ 4 0 rfl (by decide) _ 1 (by first | with_reducible assumption | decide | omega) (by decide)) ks_X2_84 rfl rfl (Nat.le_of_ble_eq_true rfl) ⟨(Nat.le_of_ble_eq_true rfl), (Nat.le_of_ble_eq_true rfl)⟩ ⟨(Nat.le_of_ble_eq_true rfl), (Nat.le_of_ble_eq_true rfl)⟩ dX2_arePairsSound_35 (fun _ _ z => False.elim z) (fun v9 ws9 h41 => ?_))))
  obtain ⟨rfl, hw9⟩ := h41
  subst ws9
  dsimp only [mPush]
  refine r_callS hX (z_X2_isPairSound _ _ (3 + 5) _ _ _ _ (zWd_loc (d := 3) (by decide)) (zrg hS (by decide)) (1 + 5) _ _ _ _ (zWd_loc (d := 1) (by decide)) (zrg hS (by decide))) ks_X2_370 rfl rfl (Nat.le_of_ble_eq_true rfl) ⟨(Nat.le_of_ble_eq_true rfl), (Nat.le_of_ble_eq_true rfl)⟩ ⟨(Nat.le_of_ble_eq_true rfl), (Nat.le_of_ble_eq_true rfl)⟩ dX2_arePairsSound_38 (fun _ _ z => False.elim z) (fun v9 ws9 h42 => ?_)
  obtain ⟨rfl, hw9⟩ := h42
  subst ws9
  dsimp only [mPush]
  refine r_if_neB (tgt := 46) hX dX2_arePairsSound_41 (by decide) (fun _ => ?_) (fun q => absurd q (by decide))
  refine r_iincZ (z := 1) (y := 2) hX dX2_arePairsSound_46 rfl (by decide) rfl rfl (r_goto (tgt := 13) hX dX2_arePairsSound_49 (by decide) (r_iload_n hX dX2_arePairsSound_13 rfl rfl (r_aload_n hX dX2_arePairsSound_14 rfl rfl (r_get hX kf_X2_20 0 rfl rfl dX2_arePairsSound_15 (r_alen (v := iZ 4) hX 3 2 rfl rfl rfl dX2_arePairsSound_18 (r_icmp_geZ (tgt := 52) hX dX2_arePairsSound_19 (by decide) (by decide) (by decide) (fun q => absurd q (by decide)) (fun _ => ?_)))))))
  refine r_aload_n hX dX2_arePairsSound_22 rfl rfl (r_get hX kf_X2_20 0 rfl rfl dX2_arePairsSound_23 (r_iload_n hX dX2_arePairsSound_26 rfl rfl (r_callS hX (z_X2_at_ok ad cs _ 3 _ 4 0 rfl (by decide) _ 3 (by first | with_reducible assumption | decide | omega) (by decide)) ks_X2_84 rfl rfl (Nat.le_of_ble_eq_true rfl) ⟨(Nat.le_of_ble_eq_true rfl), (Nat.le_of_ble_eq_true rfl)⟩ ⟨(Nat.le_of_ble_eq_true rfl), (Nat.le_of_ble_eq_true rfl)⟩ dX2_arePairsSound_27 (fun _ _ z => False.elim z) (fun v9 ws9 h43 => ?_))))
  obtain ⟨rfl, hw9⟩ := h43
  subst ws9
  dsimp only [mPush]
  refine r_aload_n hX dX2_arePairsSound_30 rfl rfl (r_get hX kf_X2_20 0 rfl rfl dX2_arePairsSound_31 (r_iload_n hX dX2_arePairsSound_34 rfl rfl (r_callS hX (z_X2_at_ok ad cs _ 3 _ 4 0 rfl (by decide) _ 2 (by first | with_reducible assumption | decide | omega) (by decide)) ks_X2_84 rfl rfl (Nat.le_of_ble_eq_true rfl) ⟨(Nat.le_of_ble_eq_true rfl), (Nat.le_of_ble_eq_true rfl)⟩ ⟨(Nat.le_of_ble_eq_true rfl), (Nat.le_of_ble_eq_true rfl)⟩ dX2_arePairsSound_35 (fun _ _ z => False.elim z) (fun v9 ws9 h44 => ?_))))
  obtain ⟨rfl, hw9⟩ := h44
  subst ws9
  dsimp only [mPush]
  refine r_callS hX (z_X2_isPairSound _ _ (3 + 5) _ _ _ _ (zWd_loc (d := 3) (by decide)) (zrg hS (by decide)) (2 + 5) _ _ _ _ (zWd_loc (d := 2) (by decide)) (zrg hS (by decide))) ks_X2_370 rfl rfl (Nat.le_of_ble_eq_true rfl) ⟨(Nat.le_of_ble_eq_true rfl), (Nat.le_of_ble_eq_true rfl)⟩ ⟨(Nat.le_of_ble_eq_true rfl), (Nat.le_of_ble_eq_true rfl)⟩ dX2_arePairsSound_38 (fun _ _ z => False.elim z) (fun v9 ws9 h45 => ?_)
  obtain ⟨rfl, hw9⟩ := h45
  subst ws9
  dsimp only [mPush]
  refine r_if_neB (tgt := 46) hX dX2_arePairsSound_41 (by decide) (fun _ => ?_) (fun q => absurd q (by decide))
  refine r_iincZ (z := 1) (y := 3) hX dX2_arePairsSound_46 rfl (by decide) rfl rfl (r_goto (tgt := 13) hX dX2_arePairsSound_49 (by decide) (r_iload_n hX dX2_arePairsSound_13 rfl rfl (r_aload_n hX dX2_arePairsSound_14 rfl rfl (r_get hX kf_X2_20 0 rfl rfl dX2_arePairsSound_15 (r_alen (v := iZ 4) hX 3 2 rfl rfl rfl dX2_arePairsSound_18 (r_icmp_geZ (tgt := 52) hX dX2_arePairsSound_19 (by decide) (by decide) (by decide) (fun q => absurd q (by decide)) (fun _ => ?_)))))))
  refine r_aload_n hX dX2_arePairsSound_22 rfl rfl (r_get hX kf_X2_20 0 rfl rfl dX2_arePairsSound_23 (r_iload_n hX dX2_arePairsSound_26 rfl rfl (r_callS hX (z_X2_at_ok ad cs _ 3 _ 4 0 rfl (by decide) _ 3 (by first | with_reducible assumption | decide | omega) (by decide)) ks_X2_84 rfl rfl (Nat.le_of_ble_eq_true rfl) ⟨(Nat.le_of_ble_eq_true rfl), (Nat.le_of_ble_eq_true rfl)⟩ ⟨(Nat.le_of_ble_eq_true rfl), (Nat.le_of_ble_eq_true rfl)⟩ dX2_arePairsSound_27 (fun _ _ z => False.elim z) (fun v9 ws9 h46 => ?_))))
  obtain ⟨rfl, hw9⟩ := h46
  subst ws9
  dsimp only [mPush]
  refine r_aload_n hX dX2_arePairsSound_30 rfl rfl (r_get hX kf_X2_20 0 rfl rfl dX2_arePairsSound_31 (r_iload_n hX dX2_arePairsSound_34 rfl rfl (r_callS hX (z_X2_at_ok ad cs _ 3 _ 4 0 rfl (by decide) _ 3 (by first | with_reducible assumption | decide | omega) (by decide)) ks_X2_84 rfl rfl (Nat.le_of_ble_eq_true rfl) ⟨(Nat.le_of_ble_eq_true rfl), (Nat.le_of_ble_eq_true rfl)⟩ ⟨(Nat.le_of_ble_eq_true rfl), (Nat.le_of_ble_eq_true rfl)⟩ dX2_arePairsSound_35 (fun _ _ z => False.elim z) (fun v9 ws9 h47 => ?_))))
  obtain ⟨rfl, hw9⟩ := h47
  subst ws9
  dsimp only [mPush]
  refine r_callS hX (z_X2_isPairSound _ _ (3 + 5) _ _ _ _ (zWd_loc (d := 3) (by decide)) (zrg hS (by decide)) (3 + 5) _ _ _ _ (zWd_loc (d := 3) (by decide)) (zrg hS (by decide))) ks_X2_370 rfl rfl (Nat.le_of_ble_eq_true rfl) ⟨(Nat.le_of_ble_eq_true rfl), (Nat.le_of_ble_eq_true rfl)⟩ ⟨(Nat.le_of_ble_eq_true rfl), (Nat.le_of_ble_eq_true rfl)⟩ dX2_arePairsSound_38 (fun _ _ z => False.elim z) (fun v9 ws9 h48 => ?_)
  obtain ⟨rfl, hw9⟩ := h48
  subst ws9
  dsimp only [mPush]
  refine r_if_neB (tgt := 46) hX dX2_arePairsSound_41 (by decide) (fun _ => ?_) (fun q => absurd q (by decide))
  refine r_iincZ (z := 1) (y := 4) hX dX2_arePairsSound_46 rfl (by decide) rfl rfl (r_lc3 (i0 := 0) (i1 := 1) (i2 := 2) rfl rfl rfl (r_goto (tgt := 13) hX dX2_arePairsSound_49 (by decide) (r_iload_n hX dX2_arePairsSound_13 rfl rfl (r_aload_n hX dX2_arePairsSound_14 rfl rfl (r_get hX kf_X2_20 0 rfl rfl dX2_arePairsSound_15 (r_alen (v := iZ 4) hX 3 2 rfl rfl rfl dX2_arePairsSound_18 (r_icmp_geZ (tgt := 52) hX dX2_arePairsSound_19 (by decide) (by decide) (by decide) (fun _ => ?_) (fun q => absurd (by decide) q))))))))
  refine r_iincZ (z := 1) (y := 4) hX dX2_arePairsSound_52 rfl (by decide) rfl rfl (r_goto (tgt := 2) hX dX2_arePairsSound_55 (by decide) (r_iload_n hX dX2_arePairsSound_2 rfl rfl (r_aload_n hX dX2_arePairsSound_3 rfl rfl (r_get hX kf_X2_20 0 rfl rfl dX2_arePairsSound_4 (r_alen (v := iZ 4) hX 3 2 rfl rfl rfl dX2_arePairsSound_7 (r_icmp_geZ (tgt := 58) hX dX2_arePairsSound_8 (by decide) (by decide) (by decide) (fun _ => ?_) (fun q => absurd (by decide) q)))))))
  refine r_iconstZ hX dX2_arePairsSound_58 ?_
  exact r_zret hX hE dX2_arePairsSound_59 (by decide) (Nat.le_of_ble_eq_true rfl) (Nat.le_of_ble_eq_true rfl) ⟨rfl, _, rfl⟩
set_option maxHeartbeats 4000000 in
set_option maxRecDepth 20000 in
theorem z_X2_areStrikesSound (ad : Nat → Nat) (cs : ClassId × ClassId × ClassId) (S : mS) (T : mT2) (rest : va_W) (hS : sWF S)  : mCt (mTy cs) yX2_areStrikesSound cX2_areStrikesSound 3 (some .boolean) ⟨3, 0, 0, 65⟩ [.ref (ad 0)] (mWd ad cs (mKof S T) rest) (fun v ws' => v = some (.int (b2i true)) ∧ ∃ T' : mT2, ws' = mWd ad cs (mKof S T') rest) mNo := by
  refine mCt.of (by decide +kernel) (Nat.le_of_ble_eq_true rfl) (fun X hX hE => ?_)
  replace hX : mOK X RX2 cX2_areStrikesSound 3 ⟨3, 0, 0, 65⟩ [] (mTy cs) := hX
  have hr0 := zrg hS (d := 0) (by decide)
  have hr1 := zrg hS (d := 1) (by decide)
  have hr2 := zrg hS (d := 2) (by decide)
  have hr3 := zrg hS (d := 3) (by decide)
  refine r_iconstZ hX dX2_areStrikesSound_0 (r_istore_n hX dX2_areStrikesSound_1 rfl (by decide) rfl (r_iload_n hX dX2_areStrikesSound_2 rfl rfl (r_aload_n hX dX2_areStrikesSound_3 rfl rfl (r_get hX kf_X2_20 0 rfl rfl dX2_areStrikesSound_4 (r_alen (v := iZ 4) hX 3 2 rfl rfl rfl dX2_areStrikesSound_7 (r_icmp_geZ (tgt := 92) hX dX2_areStrikesSound_8 (by decide) (by decide) (by decide) (fun q => absurd q (by decide)) (fun _ => ?_)))))))
  refine r_aload_n hX dX2_areStrikesSound_11 rfl rfl (r_get hX kf_X2_20 0 rfl rfl dX2_areStrikesSound_12 (r_iload_n hX dX2_areStrikesSound_15 rfl rfl (r_callS hX (z_X2_at_ok ad cs _ 3 _ 4 0 rfl (by decide) _ 0 (by first | with_reducible assumption | decide | omega) (by decide)) ks_X2_84 rfl rfl (Nat.le_of_ble_eq_true rfl) ⟨(Nat.le_of_ble_eq_true rfl), (Nat.le_of_ble_eq_true rfl)⟩ ⟨(Nat.le_of_ble_eq_true rfl), (Nat.le_of_ble_eq_true rfl)⟩ dX2_areStrikesSound_16 (fun _ _ z => False.elim z) (fun v9 ws9 h1 => ?_))))
  obtain ⟨rfl, hw9⟩ := h1
  subst ws9
  dsimp only [mPush]
  refine r_astore_n hX dX2_areStrikesSound_19 rfl (by decide) rfl (r_aload_n hX dX2_areStrikesSound_20 rfl rfl (r_get hX kf_X2_31 0 rfl rfl dX2_areStrikesSound_21 (r_aload_n hX dX2_areStrikesSound_24 rfl rfl (r_callV hX (z_X1_secondOfDay _ _ (0 + 5) _ _ _ _ (zWd_loc (d := 0) (by decide)) (zrg hS (by decide))) kv_X2_320 (0 + 5) (zWd_loc (d := 0) (by decide)) rfl rfl rfl (Nat.le_of_ble_eq_true rfl) ⟨(Nat.le_of_ble_eq_true rfl), (Nat.le_of_ble_eq_true rfl)⟩ ⟨(Nat.le_of_ble_eq_true rfl), (Nat.le_of_ble_eq_true rfl)⟩ dX2_areStrikesSound_25 (fun _ _ z => False.elim z) (fun v9 ws9 h2 => ?_)))))
  obtain ⟨rfl, hw9⟩ := h2
  subst ws9
  dsimp only [mPush]
  refine r_i2lZ hX dX2_areStrikesSound_28 (by first | with_reducible assumption | decide | omega) (r_aload_n hX dX2_areStrikesSound_29 rfl rfl (r_getN hX kg_X2_172 (0 + 5) (zWd_loc (d := 0) (by decide)) rfl dX2_areStrikesSound_30 (r_aload_n hX dX2_areStrikesSound_33 rfl rfl (r_getN hX kg_X2_158 (0 + 5) (zWd_loc (d := 0) (by decide)) rfl dX2_areStrikesSound_34 (r_callV hX (c_X1_tell _ _ 13 _ _ _ _ zWd_h2 _ _ _) kv_X2_270 13 zWd_h2 rfl rfl rfl (Nat.le_of_ble_eq_true rfl) ⟨(Nat.le_of_ble_eq_true rfl), (Nat.le_of_ble_eq_true rfl)⟩ ⟨(Nat.le_of_ble_eq_true rfl), (Nat.le_of_ble_eq_true rfl)⟩ dX2_areStrikesSound_37 (fun _ _ z => False.elim z) (fun v9 ws9 h3 => ?_))))))
  obtain ⟨rfl, hw9⟩ := h3
  subst ws9
  dsimp only [mPush]
  refine r_eqw zWd_t2 (r_aload_n hX dX2_areStrikesSound_40 rfl rfl (r_get hX kf_X2_27 0 rfl rfl dX2_areStrikesSound_41 (r_aload_n hX dX2_areStrikesSound_44 rfl rfl (r_callV hX (z_X1_beginOfDay _ _ (0 + 5) _ _ _ _ (zWd_loc (d := 0) (by decide)) (zrg hS (by decide))) kv_X2_190 (0 + 5) (zWd_loc (d := 0) (by decide)) rfl rfl rfl (Nat.le_of_ble_eq_true rfl) ⟨(Nat.le_of_ble_eq_true rfl), (Nat.le_of_ble_eq_true rfl)⟩ ⟨(Nat.le_of_ble_eq_true rfl), (Nat.le_of_ble_eq_true rfl)⟩ dX2_areStrikesSound_45 (fun _ _ z => False.elim z) (fun v9 ws9 h4 => ?_)))))
  obtain ⟨rfl, hw9⟩ := h4
  subst ws9
  dsimp only [mPush]
  refine r_aload_n hX dX2_areStrikesSound_48 rfl rfl (r_get hX kf_X2_31 0 rfl rfl dX2_areStrikesSound_49 (r_getN hX kg_X2_146 13 zWd_g2 rfl dX2_areStrikesSound_52 (r_laddZ hX dX2_areStrikesSound_55 (r_aload_n hX dX2_areStrikesSound_56 rfl rfl (r_get hX kf_X2_31 0 rfl rfl dX2_areStrikesSound_57 (r_getN hX kg_X2_172 13 zWd_g2 rfl dX2_areStrikesSound_60 (r_aload_n hX dX2_areStrikesSound_63 rfl rfl ?_)))))))
  refine r_get hX kf_X2_31 0 rfl rfl dX2_areStrikesSound_64 (r_getN hX kg_X2_158 13 zWd_g2 rfl dX2_areStrikesSound_67 (r_callV hX (c_X1_tell _ _ 12 _ _ _ _ zWd_h1 _ _ _) kv_X2_270 12 zWd_h1 rfl rfl rfl (Nat.le_of_ble_eq_true rfl) ⟨(Nat.le_of_ble_eq_true rfl), (Nat.le_of_ble_eq_true rfl)⟩ ⟨(Nat.le_of_ble_eq_true rfl), (Nat.le_of_ble_eq_true rfl)⟩ dX2_areStrikesSound_70 (fun _ _ z => False.elim z) (fun v9 ws9 h5 => ?_)))
  obtain ⟨rfl, hw9⟩ := h5
  subst ws9
  dsimp only [mPush]
  refine r_eqw zWd_t1 (r_aload_n hX dX2_areStrikesSound_73 rfl rfl (r_get hX kf_X2_27 0 rfl rfl dX2_areStrikesSound_74 (r_aload_n hX dX2_areStrikesSound_77 rfl rfl (r_callV hX (z_X1_isSame _ _ 12 _ _ _ _ zWd_g1 (by first | with_reducible assumption | decide | omega) (0 + 5) _ _ _ _ (zWd_loc (d := 0) (by decide)) (zrg hS (by decide))) kv_X2_363 12 zWd_g1 rfl rfl rfl (Nat.le_of_ble_eq_true rfl) ⟨(Nat.le_of_ble_eq_true rfl), (Nat.le_of_ble_eq_true rfl)⟩ ⟨(Nat.le_of_ble_eq_true rfl), (Nat.le_of_ble_eq_true rfl)⟩ dX2_areStrikesSound_78 (fun _ _ z => False.elim z) (fun v9 ws9 h6 => ?_)))))
  obtain ⟨rfl, hw9⟩ := h6
  subst ws9
  dsimp only [mPush]
  refine r_if_neB (tgt := 86) hX dX2_areStrikesSound_81 (by decide) (fun c7 => ?_) (fun c7 => ?_)
  · have c7 := of_decide_eq_true c7
    refine r_iincZ (z := 1) (y := 1) hX dX2_areStrikesSound_86 rfl (by decide) rfl rfl (r_goto (tgt := 2) hX dX2_areStrikesSound_89 (by decide) (r_iload_n hX dX2_areStrikesSound_2 rfl rfl (r_aload_n hX dX2_areStrikesSound_3 rfl rfl (r_get hX kf_X2_20 0 rfl rfl dX2_areStrikesSound_4 (r_alen (v := iZ 4) hX 3 2 rfl rfl rfl dX2_areStrikesSound_7 (r_icmp_geZ (tgt := 92) hX dX2_areStrikesSound_8 (by decide) (by decide) (by decide) (fun q => absurd q (by decide)) (fun _ => ?_)))))))
    refine r_aload_n hX dX2_areStrikesSound_11 rfl rfl (r_get hX kf_X2_20 0 rfl rfl dX2_areStrikesSound_12 (r_iload_n hX dX2_areStrikesSound_15 rfl rfl (r_callS hX (z_X2_at_ok ad cs _ 3 _ 4 0 rfl (by decide) _ 1 (by first | with_reducible assumption | decide | omega) (by decide)) ks_X2_84 rfl rfl (Nat.le_of_ble_eq_true rfl) ⟨(Nat.le_of_ble_eq_true rfl), (Nat.le_of_ble_eq_true rfl)⟩ ⟨(Nat.le_of_ble_eq_true rfl), (Nat.le_of_ble_eq_true rfl)⟩ dX2_areStrikesSound_16 (fun _ _ z => False.elim z) (fun v9 ws9 h8 => ?_))))
    obtain ⟨rfl, hw9⟩ := h8
    subst ws9
    dsimp only [mPush]
    refine r_astore_n hX dX2_areStrikesSound_19 rfl (by decide) rfl (r_aload_n hX dX2_areStrikesSound_20 rfl rfl (r_get hX kf_X2_31 0 rfl rfl dX2_areStrikesSound_21 (r_aload_n hX dX2_areStrikesSound_24 rfl rfl (r_callV hX (z_X1_secondOfDay _ _ (1 + 5) _ _ _ _ (zWd_loc (d := 1) (by decide)) (zrg hS (by decide))) kv_X2_320 (1 + 5) (zWd_loc (d := 1) (by decide)) rfl rfl rfl (Nat.le_of_ble_eq_true rfl) ⟨(Nat.le_of_ble_eq_true rfl), (Nat.le_of_ble_eq_true rfl)⟩ ⟨(Nat.le_of_ble_eq_true rfl), (Nat.le_of_ble_eq_true rfl)⟩ dX2_areStrikesSound_25 (fun _ _ z => False.elim z) (fun v9 ws9 h9 => ?_)))))
    obtain ⟨rfl, hw9⟩ := h9
    subst ws9
    dsimp only [mPush]
    refine r_i2lZ hX dX2_areStrikesSound_28 (by first | with_reducible assumption | decide | omega) (r_aload_n hX dX2_areStrikesSound_29 rfl rfl (r_getN hX kg_X2_172 (1 + 5) (zWd_loc (d := 1) (by decide)) rfl dX2_areStrikesSound_30 (r_aload_n hX dX2_areStrikesSound_33 rfl rfl (r_getN hX kg_X2_158 (1 + 5) (zWd_loc (d := 1) (by decide)) rfl dX2_areStrikesSound_34 (r_callV hX (c_X1_tell _ _ 13 _ _ _ _ zWd_g2 _ _ _) kv_X2_270 13 zWd_g2 rfl rfl rfl (Nat.le_of_ble_eq_true rfl) ⟨(Nat.le_of_ble_eq_true rfl), (Nat.le_of_ble_eq_true rfl)⟩ ⟨(Nat.le_of_ble_eq_true rfl), (Nat.le_of_ble_eq_true rfl)⟩ dX2_areStrikesSound_37 (fun _ _ z => False.elim z) (fun v9 ws9 h10 => ?_))))))
    obtain ⟨rfl, hw9⟩ := h10
    subst ws9
    dsimp only [mPush]
    refine r_eqw zWd_t2 (r_aload_n hX dX2_areStrikesSound_40 rfl rfl (r_get hX kf_X2_27 0 rfl rfl dX2_areStrikesSound_41 (r_aload_n hX dX2_areStrikesSound_44 rfl rfl (r_callV hX (z_X1_beginOfDay _ _ (1 + 5) _ _ _ _ (zWd_loc (d := 1) (by decide)) (zrg hS (by decide))) kv_X2_190 (1 + 5) (zWd_loc (d := 1) (by decide)) rfl rfl rfl (Nat.le_of_ble_eq_true rfl) ⟨(Nat.le_of_ble_eq_true rfl), (Nat.le_of_ble_eq_true rfl)⟩ ⟨(Nat.le_of_ble_eq_true rfl), (Nat.le_of_ble_eq_true rfl)⟩ dX2_areStrikesSound_45 (fun _ _ z => False.elim z) (fun v9 ws9 h11 => ?_)))))
    obtain ⟨rfl, hw9⟩ := h11
    subst ws9
    dsimp only [mPush]
    refine r_aload_n hX dX2_areStrikesSound_48 rfl rfl (r_get hX kf_X2_31 0 rfl rfl dX2_areStrikesSound_49 (r_getN hX kg_X2_146 13 zWd_g2 rfl dX2_areStrikesSound_52 (r_laddZ hX dX2_areStrikesSound_55 (r_aload_n hX dX2_areStrikesSound_56 rfl rfl (r_get hX kf_X2_31 0 rfl rfl dX2_areStrikesSound_57 (r_getN hX kg_X2_172 13 zWd_g2 rfl dX2_areStrikesSound_60 (r_aload_n hX dX2_areStrikesSound_63 rfl rfl ?_)))))))
    refine r_get hX kf_X2_31 0 rfl rfl dX2_areStrikesSound_64 (r_getN hX kg_X2_158 13 zWd_g2 rfl dX2_areStrikesSound_67 (r_callV hX (c_X1_tell _ _ 12 _ _ _ _ zWd_g1 _ _ _) kv_X2_270 12 zWd_g1 rfl rfl rfl (Nat.le_of_ble_eq_true rfl) ⟨(Nat.le_of_ble_eq_true rfl), (Nat.le_of_ble_eq_true rfl)⟩ ⟨(Nat.le_of_ble_eq_true rfl), (Nat.le_of_ble_eq_true rfl)⟩ dX2_areStrikesSound_70 (fun _ _ z => False.elim z) (fun v9 ws9 h12 => ?_)))
    obtain ⟨rfl, hw9⟩ := h12
    subst ws9
    dsimp only [mPush]
    refine r_eqw zWd_t1 (r_aload_n hX dX2_areStrikesSound_73 rfl rfl (r_get hX kf_X2_27 0 rfl rfl dX2_areStrikesSound_74 (r_aload_n hX dX2_areStrikesSound_77 rfl rfl (r_callV hX (z_X1_isSame _ _ 12 _ _ _ _ zWd_g1 (by first | with_reducible assumption | decide | omega) (1 + 5) _ _ _ _ (zWd_loc (d := 1) (by decide)) (zrg hS (by decide))) kv_X2_363 12 zWd_g1 rfl rfl rfl (Nat.le_of_ble_eq_true rfl) ⟨(Nat.le_of_ble_eq_true rfl), (Nat.le_of_ble_eq_true rfl)⟩ ⟨(Nat.le_of_ble_eq_true rfl), (Nat.le_of_ble_eq_true rfl)⟩ dX2_areStrikesSound_78 (fun _ _ z => False.elim z) (fun v9 ws9 h13 => ?_)))))
    obtain ⟨rfl, hw9⟩ := h13
    subst ws9
    dsimp only [mPush]
    refine r_if_neB (tgt := 86) hX dX2_areStrikesSound_81 (by decide) (fun c14 => ?_) (fun c14 => ?_)
    · have c14 := of_decide_eq_true c14
      refine r_iincZ (z := 1) (y := 2) hX dX2_areStrikesSound_86 rfl (by decide) rfl rfl (r_goto (tgt := 2) hX dX2_areStrikesSound_89 (by decide) (r_iload_n hX dX2_areStrikesSound_2 rfl rfl (r_aload_n hX dX2_areStrikesSound_3 rfl rfl (r_get hX kf_X2_20 0 rfl rfl dX2_areStrikesSound_4 (r_alen (v := iZ 4) hX 3 2 rfl rfl rfl dX2_areStrikesSound_7 (r_icmp_geZ (tgt := 92) hX dX2_areStrikesSound_8 (by decide) (by decide) (by decide) (fun q => absurd q (by decide)) (fun _ => ?_)))))))
      refine r_aload_n hX dX2_areStrikesSound_11 rfl rfl (r_get hX kf_X2_20 0 rfl rfl dX2_areStrikesSound_12 (r_iload_n hX dX2_areStrikesSound_15 rfl rfl (r_callS hX (z_X2_at_ok ad cs _ 3 _ 4 0 rfl (by decide) _ 2 (by first | with_reducible assumption | decide | omega) (by decide)) ks_X2_84 rfl rfl (Nat.le_of_ble_eq_true rfl) ⟨(Nat.le_of_ble_eq_true rfl), (Nat.le_of_ble_eq_true rfl)⟩ ⟨(Nat.le_of_ble_eq_true rfl), (Nat.le_of_ble_eq_true rfl)⟩ dX2_areStrikesSound_16 (fun _ _ z => False.elim z) (fun v9 ws9 h15 => ?_))))
      obtain ⟨rfl, hw9⟩ := h15
      subst ws9
      dsimp only [mPush]
      refine r_astore_n hX dX2_areStrikesSound_19 rfl (by decide) rfl (r_aload_n hX dX2_areStrikesSound_20 rfl rfl (r_get hX kf_X2_31 0 rfl rfl dX2_areStrikesSound_21 (r_aload_n hX dX2_areStrikesSound_24 rfl rfl (r_callV hX (z_X1_secondOfDay _ _ (2 + 5) _ _ _ _ (zWd_loc (d := 2) (by decide)) (zrg hS (by decide))) kv_X2_320 (2 + 5) (zWd_loc (d := 2) (by decide)) rfl rfl rfl (Nat.le_of_ble_eq_true rfl) ⟨(Nat.le_of_ble_eq_true rfl), (Nat.le_of_ble_eq_true rfl)⟩ ⟨(Nat.le_of_ble_eq_true rfl), (Nat.le_of_ble_eq_true rfl)⟩ dX2_areStrikesSound_25 (fun _ _ z => False.elim z) (fun v9 ws9 h16 => ?_)))))
      obtain ⟨rfl, hw9⟩ := h16
      subst ws9
      dsimp only [mPush]
      refine r_i2lZ hX dX2_areStrikesSound_28 (by first | with_reducible assumption | decide | omega) (r_aload_n hX dX2_areStrikesSound_29 rfl rfl (r_getN hX kg_X2_172 (2 + 5) (zWd_loc (d := 2) (by decide)) rfl dX2_areStrikesSound_30 (r_aload_n hX dX2_areStrikesSound_33 rfl rfl (r_getN hX kg_X2_158 (2 + 5) (zWd_loc (d := 2) (by decide)) rfl dX2_areStrikesSound_34 (r_callV hX (c_X1_tell _ _ 13 _ _ _ _ zWd_g2 _ _ _) kv_X2_270 13 zWd_g2 rfl rfl rfl (Nat.le_of_ble_eq_true rfl) ⟨(Nat.le_of_ble_eq_true rfl), (Nat.le_of_ble_eq_true rfl)⟩ ⟨(Nat.le_of_ble_eq_true rfl), (Nat.le_of_ble_eq_true rfl)⟩ dX2_areStrikesSound_37 (fun _ _ z => False.elim z) (fun v9 ws9 h17 => ?_))))))
      obtain ⟨rfl, hw9⟩ := h17
      subst ws9
      dsimp only [mPush]
      refine r_eqw zWd_t2 (r_aload_n hX dX2_areStrikesSound_40 rfl rfl (r_get hX kf_X2_27 0 rfl rfl dX2_areStrikesSound_41 (r_aload_n hX dX2_areStrikesSound_44 rfl rfl (r_callV hX (z_X1_beginOfDay _ _ (2 + 5) _ _ _ _ (zWd_loc (d := 2) (by decide)) (zrg hS (by decide))) kv_X2_190 (2 + 5) (zWd_loc (d := 2) (by decide)) rfl rfl rfl (Nat.le_of_ble_eq_true rfl) ⟨(Nat.le_of_ble_eq_true rfl), (Nat.le_of_ble_eq_true rfl)⟩ ⟨(Nat.le_of_ble_eq_true rfl), (Nat.le_of_ble_eq_true rfl)⟩ dX2_areStrikesSound_45 (fun _ _ z => False.elim z) (fun v9 ws9 h18 => ?_)))))
      obtain ⟨rfl, hw9⟩ := h18
      subst ws9
      dsimp only [mPush]
      refine r_aload_n hX dX2_areStrikesSound_48 rfl rfl (r_get hX kf_X2_31 0 rfl rfl dX2_areStrikesSound_49 (r_getN hX kg_X2_146 13 zWd_g2 rfl dX2_areStrikesSound_52 (r_laddZ hX dX2_areStrikesSound_55 (r_aload_n hX dX2_areStrikesSound_56 rfl rfl (r_get hX kf_X2_31 0 rfl rfl dX2_areStrikesSound_57 (r_getN hX kg_X2_172 13 zWd_g2 rfl dX2_areStrikesSound_60 (r_aload_n hX dX2_areStrikesSound_63 rfl rfl ?_)))))))
      refine r_get hX kf_X2_31 0 rfl rfl dX2_areStrikesSound_64 (r_getN hX kg_X2_158 13 zWd_g2 rfl dX2_areStrikesSound_67 (r_callV hX (c_X1_tell _ _ 12 _ _ _ _ zWd_g1 _ _ _) kv_X2_270 12 zWd_g1 rfl rfl rfl (Nat.le_of_ble_eq_true rfl) ⟨(Nat.le_of_ble_eq_true rfl), (Nat.le_of_ble_eq_true rfl)⟩ ⟨(Nat.le_of_ble_eq_true rfl), (Nat.le_of_ble_eq_true rfl)⟩ dX2_areStrikesSound_70 (fun _ _ z => False.elim z) (fun v9 ws9 h19 => ?_)))
      obtain ⟨rfl, hw9⟩ := h19
      subst ws9
      dsimp only [mPush]
      refine r_eqw zWd_t1 (r_aload_n hX dX2_areStrikesSound_73 rfl rfl (r_get hX kf_X2_27 0 rfl rfl dX2_areStrikesSound_74 (r_aload_n hX dX2_areStrikesSound_77 rfl rfl (r_callV hX (z_X1_isSame _ _ 12 _ _ _ _ zWd_g1 (by first | with_reducible assumption | decide | omega) (2 + 5) _ _ _ _ (zWd_loc (d := 2) (by decide)) (zrg hS (by decide))) kv_X2_363 12 zWd_g1 rfl rfl rfl (Nat.le_of_ble_eq_true rfl) ⟨(Nat.le_of_ble_eq_true rfl), (Nat.le_of_ble_eq_true rfl)⟩ ⟨(Nat.le_of_ble_eq_true rfl), (Nat.le_of_ble_eq_true rfl)⟩ dX2_areStrikesSound_78 (fun _ _ z => False.elim z) (fun v9 ws9 h20 => ?_)))))
      obtain ⟨rfl, hw9⟩ := h20
      subst ws9
      dsimp only [mPush]
      refine r_if_neB (tgt := 86) hX dX2_areStrikesSound_81 (by decide) (fun c21 => ?_) (fun c21 => ?_)
      · have c21 := of_decide_eq_true c21
        refine r_iincZ (z := 1) (y := 3) hX dX2_areStrikesSound_86 rfl (by decide) rfl rfl (r_goto (tgt := 2) hX dX2_areStrikesSound_89 (by decide) (r_iload_n hX dX2_areStrikesSound_2 rfl rfl (r_aload_n hX dX2_areStrikesSound_3 rfl rfl (r_get hX kf_X2_20 0 rfl rfl dX2_areStrikesSound_4 (r_alen (v := iZ 4) hX 3 2 rfl rfl rfl dX2_areStrikesSound_7 (r_icmp_geZ (tgt := 92) hX dX2_areStrikesSound_8 (by decide) (by decide) (by decide) (fun q => absurd q (by decide)) (fun _ => ?_)))))))
        refine r_aload_n hX dX2_areStrikesSound_11 rfl rfl (r_get hX kf_X2_20 0 rfl rfl dX2_areStrikesSound_12 (r_iload_n hX dX2_areStrikesSound_15 rfl rfl (r_callS hX (z_X2_at_ok ad cs _ 3 _ 4 0 rfl (by decide) _ 3 (by first | with_reducible assumption | decide | omega) (by decide)) ks_X2_84 rfl rfl (Nat.le_of_ble_eq_true rfl) ⟨(Nat.le_of_ble_eq_true rfl), (Nat.le_of_ble_eq_true rfl)⟩ ⟨(Nat.le_of_ble_eq_true rfl), (Nat.le_of_ble_eq_true rfl)⟩ dX2_areStrikesSound_16 (fun _ _ z => False.elim z) (fun v9 ws9 h22 => ?_))))
        obtain ⟨rfl, hw9⟩ := h22
        subst ws9
        dsimp only [mPush]
        refine r_astore_n hX dX2_areStrikesSound_19 rfl (by decide) rfl (r_aload_n hX dX2_areStrikesSound_20 rfl rfl (r_get hX kf_X2_31 0 rfl rfl dX2_areStrikesSound_21 (r_aload_n hX dX2_areStrikesSound_24 rfl rfl (r_callV hX (z_X1_secondOfDay _ _ (3 + 5) _ _ _ _ (zWd_loc (d := 3) (by decide)) (zrg hS (by decide))) kv_X2_320 (3 + 5) (zWd_loc (d := 3) (by decide)) rfl rfl rfl (Nat.le_of_ble_eq_true rfl) ⟨(Nat.le_of_ble_eq_true rfl), (Nat.le_of_ble_eq_true rfl)⟩ ⟨(Nat.le_of_ble_eq_true rfl), (Nat.le_of_ble_eq_true rfl)⟩ dX2_areStrikesSound_25 (fun _ _ z => False.elim z) (fun v9 ws9 h23 => ?_)))))
        obtain ⟨rfl, hw9⟩ := h23
        subst ws9
        dsimp only [mPush]
        refine r_i2lZ hX dX2_areStrikesSound_28 (by first | with_reducible assumption | decide | omega) (r_aload_n hX dX2_areStrikesSound_29 rfl rfl (r_getN hX kg_X2_172 (3 + 5) (zWd_loc (d := 3) (by decide)) rfl dX2_areStrikesSound_30 (r_aload_n hX dX2_areStrikesSound_33 rfl rfl (r_getN hX kg_X2_158 (3 + 5) (zWd_loc (d := 3) (by decide)) rfl dX2_areStrikesSound_34 (r_callV hX (c_X1_tell _ _ 13 _ _ _ _ zWd_g2 _ _ _) kv_X2_270 13 zWd_g2 rfl rfl rfl (Nat.le_of_ble_eq_true rfl) ⟨(Nat.le_of_ble_eq_true rfl), (Nat.le_of_ble_eq_true rfl)⟩ ⟨(Nat.le_of_ble_eq_true rfl), (Nat.le_of_ble_eq_true rfl)⟩ dX2_areStrikesSound_37 (fun _ _ z => False.elim z) (fun v9 ws9 h24 => ?_))))))
        obtain ⟨rfl, hw9⟩ := h24
        subst ws9
        dsimp only [mPush]
        refine r_eqw zWd_t2 (r_aload_n hX dX2_areStrikesSound_40 rfl rfl (r_get hX kf_X2_27 0 rfl rfl dX2_areStrikesSound_41 (r_aload_n hX dX2_areStrikesSound_44 rfl rfl (r_callV hX (z_X1_beginOfDay _ _ (3 + 5) _ _ _ _ (zWd_loc (d := 3) (by decide)) (zrg hS (by decide))) kv_X2_190 (3 + 5) (zWd_loc (d := 3) (by decide)) rfl rfl rfl (Nat.le_of_ble_eq_true rfl) ⟨(Nat.le_of_ble_eq_true rfl), (Nat.le_of_ble_eq_true rfl)⟩ ⟨(Nat.le_of_ble_eq_true rfl), (Nat.le_of_ble_eq_true rfl)⟩ dX2_areStrikesSound_45 (fun _ _ z => False.elim z) (fun v9 ws9 h25 => ?_)))))
        obtain ⟨rfl, hw9⟩ := h25
        subst ws9
        dsimp only [mPush]
        refine r_aload_n hX dX2_areStrikesSound_48 rfl rfl (r_get hX kf_X2_31 0 rfl rfl dX2_areStrikesSound_49 (r_getN hX kg_X2_146 13 zWd_g2 rfl dX2_areStrikesSound_52 (r_laddZ hX dX2_areStrikesSound_55 (r_aload_n hX dX2_areStrikesSound_56 rfl rfl (r_get hX kf_X2_31 0 rfl rfl dX2_areStrikesSound_57 (r_getN hX kg_X2_172 13 zWd_g2 rfl dX2_areStrikesSound_60 (r_aload_n hX dX2_areStrikesSound_63 rfl rfl ?_)))))))
        refine r_get hX kf_X2_31 0 rfl rfl dX2_areStrikesSound_64 (r_getN hX kg_X2_158 13 zWd_g2 rfl dX2_areStrikesSound_67 (r_callV hX (c_X1_tell _ _ 12 _ _ _ _ zWd_g1 _ _ _) kv_X2_270 12 zWd_g1 rfl rfl rfl (Nat.le_of_ble_eq_true rfl) ⟨(Nat.le_of_ble_eq_true rfl), (Nat.le_of_ble_eq_true rfl)⟩ ⟨(Nat.le_of_ble_eq_true rfl), (Nat.le_of_ble_eq_true rfl)⟩ dX2_areStrikesSound_70 (fun _ _ z => False.elim z) (fun v9 ws9 h26 => ?_)))
        obtain ⟨rfl, hw9⟩ := h26
        subst ws9
        dsimp only [mPush]
        refine r_eqw zWd_t1 (r_aload_n hX dX2_areStrikesSound_73 rfl rfl (r_get hX kf_X2_27 0 rfl rfl dX2_areStrikesSound_74 (r_aload_n hX dX2_areStrikesSound_77 rfl rfl (r_callV hX (z_X1_isSame _ _ 12 _ _ _ _ zWd_g1 (by first | with_reducible assumption | decide | omega) (3 + 5) _ _ _ _ (zWd_loc (d := 3) (by decide)) (zrg hS (by decide))) kv_X2_363 12 zWd_g1 rfl rfl rfl (Nat.le_of_ble_eq_true rfl) ⟨(Nat.le_of_ble_eq_true rfl), (Nat.le_of_ble_eq_true rfl)⟩ ⟨(Nat.le_of_ble_eq_true rfl), (Nat.le_of_ble_eq_true rfl)⟩ dX2_areStrikesSound_78 (fun _ _ z => False.elim z) (fun v9 ws9 h27 => ?_)))))
        obtain ⟨rfl, hw9⟩ := h27
        subst ws9
        dsimp only [mPush]
        refine r_if_neB (tgt := 86) hX dX2_areStrikesSound_81 (by decide) (fun c28 => ?_) (fun c28 => ?_)
        · have c28 := of_decide_eq_true c28
          refine r_iincZ (z := 1) (y := 4) hX dX2_areStrikesSound_86 rfl (by decide) rfl rfl (r_goto (tgt := 2) hX dX2_areStrikesSound_89 (by decide) (r_iload_n hX dX2_areStrikesSound_2 rfl rfl (r_aload_n hX dX2_areStrikesSound_3 rfl rfl (r_get hX kf_X2_20 0 rfl rfl dX2_areStrikesSound_4 (r_alen (v := iZ 4) hX 3 2 rfl rfl rfl dX2_areStrikesSound_7 (r_icmp_geZ (tgt := 92) hX dX2_areStrikesSound_8 (by decide) (by decide) (by decide) (fun _ => ?_) (fun q => absurd (by decide) q)))))))
          refine r_iconstZ hX dX2_areStrikesSound_92 ?_
          exact r_zret hX hE dX2_areStrikesSound_93 (by decide) (Nat.le_of_ble_eq_true rfl) (Nat.le_of_ble_eq_true rfl) ⟨rfl, _, rfl⟩
        · have c28 := of_decide_eq_false c28
          refine r_iconstZ hX dX2_areStrikesSound_84 ?_
          exfalso
          omega
      · have c21 := of_decide_eq_false c21
        refine r_iconstZ hX dX2_areStrikesSound_84 ?_
        exfalso
        omega
    · have c14 := of_decide_eq_false c14
      refine r_iconstZ hX dX2_areStrikesSound_84 ?_
      exfalso
      omega
  · have c7 := of_decide_eq_false c7
    refine r_iconstZ hX dX2_areStrikesSound_84 ?_
    exfalso
    omega
set_option maxHeartbeats 4000000 in
set_option maxRecDepth 20000 in
theorem z_X2_isSound (ad : Nat → Nat) (cs : ClassId × ClassId × ClassId) (S : mS) (T : mT2) (rest : va_W) (hS : sWF S)  : mCt (mTy cs) yX2_isSound cX2_isSound 1 (some .boolean) ⟨5, 0, 0, 112⟩ [.ref (ad 0)] (mWd ad cs (mKof S T) rest) (fun v ws' => v = some (.int (b2i true)) ∧ ∃ T' : mT2, ws' = mWd ad cs (mKof S T') rest) mNo := by
  refine mCt.of (by decide +kernel) (Nat.le_of_ble_eq_true rfl) (fun X hX hE => ?_)
  replace hX : mOK X RX2 cX2_isSound 1 ⟨5, 0, 0, 112⟩ [] (mTy cs) := hX
  refine r_aload_n hX dX2_isSound_0 rfl rfl (r_callV hX (z_X2_areMomentsSound ad cs S T rest hS) kv_X2_208 0 rfl rfl rfl rfl (Nat.le_of_ble_eq_true rfl) ⟨(Nat.le_of_ble_eq_true rfl), (Nat.le_of_ble_eq_true rfl)⟩ ⟨(Nat.le_of_ble_eq_true rfl), (Nat.le_of_ble_eq_true rfl)⟩ dX2_isSound_1 (fun _ _ z => False.elim z) (fun v9 ws9 h1 => ?_))
  obtain ⟨rfl, T2, hw9⟩ := h1
  subst ws9
  dsimp only [mPush]
  refine r_if_eqB (tgt := 32) hX dX2_isSound_4 (by decide) (fun q => absurd q (by decide)) (fun _ => ?_)
  refine r_aload_n hX dX2_isSound_7 rfl rfl (r_callV hX (z_X2_areDatesToldAnewSound ad cs S T2 rest hS) kv_X2_212 0 rfl rfl rfl rfl (Nat.le_of_ble_eq_true rfl) ⟨(Nat.le_of_ble_eq_true rfl), (Nat.le_of_ble_eq_true rfl)⟩ ⟨(Nat.le_of_ble_eq_true rfl), (Nat.le_of_ble_eq_true rfl)⟩ dX2_isSound_8 (fun _ _ z => False.elim z) (fun v9 ws9 h3 => ?_))
  obtain ⟨rfl, T4, hw9⟩ := h3
  subst ws9
  dsimp only [mPush]
  refine r_if_eqB (tgt := 32) hX dX2_isSound_11 (by decide) (fun q => absurd q (by decide)) (fun _ => ?_)
  refine r_aload_n hX dX2_isSound_14 rfl rfl (r_callV hX (z_X2_arePairsSound ad cs S T4 rest hS) kv_X2_215 0 rfl rfl rfl rfl (Nat.le_of_ble_eq_true rfl) ⟨(Nat.le_of_ble_eq_true rfl), (Nat.le_of_ble_eq_true rfl)⟩ ⟨(Nat.le_of_ble_eq_true rfl), (Nat.le_of_ble_eq_true rfl)⟩ dX2_isSound_15 (fun _ _ z => False.elim z) (fun v9 ws9 h5 => ?_))
  obtain ⟨rfl, T6, hw9⟩ := h5
  subst ws9
  dsimp only [mPush]
  refine r_if_eqB (tgt := 32) hX dX2_isSound_18 (by decide) (fun q => absurd q (by decide)) (fun _ => ?_)
  refine r_aload_n hX dX2_isSound_21 rfl rfl (r_callV hX (z_X2_areStrikesSound ad cs S T6 rest hS) kv_X2_218 0 rfl rfl rfl rfl (Nat.le_of_ble_eq_true rfl) ⟨(Nat.le_of_ble_eq_true rfl), (Nat.le_of_ble_eq_true rfl)⟩ ⟨(Nat.le_of_ble_eq_true rfl), (Nat.le_of_ble_eq_true rfl)⟩ dX2_isSound_22 (fun _ _ z => False.elim z) (fun v9 ws9 h7 => ?_))
  obtain ⟨rfl, T8, hw9⟩ := h7
  subst ws9
  dsimp only [mPush]
  refine r_if_eqB (tgt := 32) hX dX2_isSound_25 (by decide) (fun q => absurd q (by decide)) (fun _ => ?_)
  refine r_iconstZ hX dX2_isSound_28 (r_goto (tgt := 33) hX dX2_isSound_29 (by decide) ?_)
  exact r_zret hX hE dX2_isSound_33 (by decide) (Nat.le_of_ble_eq_true rfl) (Nat.le_of_ble_eq_true rfl) ⟨rfl, _, rfl⟩
end
-- 6d zhouse
section
/-! The class, exact (rows by a program of this repository). -/
def zFst (lt : Nat → Nat → Bool) : Nat := cond (lt 3 (cond (lt 2 (cond (lt 1 0) 1 0)) 2 (cond (lt 1 0) 1 0))) 3 (cond (lt 2 (cond (lt 1 0) 1 0)) 2 (cond (lt 1 0) 1 0))
def zFM (S : mS) : Nat := zFst (fun i j => decide (snu S i < snu S j))
def zFD (S : mS) : Nat := zFst (fun i j => decide (zTo (sse S i) (sna S i) (sow S i) (sse S j) (sna S j) (sow S j) < 0))
theorem zFst_1 {lt : Nat → Nat → Bool} {a b c : Nat} {x y z : Bool} (h1 : lt 1 0 = x) (ha : cond x 1 0 = a) (h2 : lt 2 a = y) (hb : cond y 2 a = b) (h3 : lt 3 b = z) (hc : cond z 3 b = c) : zFst lt = c := by
  unfold zFst
  rw [h1, ha, h2, hb, h3, hc]
def zHo (S : mS) (w : Int) : Int32 := if w = 0 then S.2.2.2.1 else if w = 1 then S.2.2.2.2 else if w = 2 then iZ (zFD S : Nat) else iZ (zFM S : Nat)
set_option maxHeartbeats 4000000 in
set_option maxRecDepth 20000 in
theorem z_X2_firstMoment (ad : Nat → Nat) (cs : ClassId × ClassId × ClassId) (S : mS) (T : mT2) (rest : va_W) (hS : sWF S)  : mCt (mTy cs) yX2_firstMoment cX2_firstMoment 3 (some .int) ⟨0, 0, 0, 0⟩ [.ref (ad 0)] (mWd ad cs (mKof S T) rest) (fun v ws' => v = some (.int (iZ (zFM S : Nat))) ∧ ws' = (mWd ad cs (mKof S T) rest)) mNo := by
  refine mCt.of (by decide +kernel) (Nat.le_of_ble_eq_true rfl) (fun X hX hE => ?_)
  replace hX : mOK X RX2 cX2_firstMoment 3 ⟨0, 0, 0, 0⟩ [] (mTy cs) := hX
  have hn0 := hS.2.1 0 (by decide)
  have hn1 := hS.2.1 1 (by decide)
  have hn2 := hS.2.1 2 (by decide)
  have hn3 := hS.2.1 3 (by decide)
  refine r_iconstZ hX dX2_firstMoment_0 (r_istore_n hX dX2_firstMoment_1 rfl (by decide) rfl (r_iconstZ hX dX2_firstMoment_2 (r_istore_n hX dX2_firstMoment_3 rfl (by decide) rfl (r_iload_n hX dX2_firstMoment_4 rfl rfl (r_aload_n hX dX2_firstMoment_5 rfl rfl (r_get hX kf_X2_13 0 rfl rfl dX2_firstMoment_6 (r_alen (v := iZ 4) hX 2 1 rfl rfl rfl dX2_firstMoment_9 ?_)))))))
  refine r_icmp_geZ (tgt := 37) hX dX2_firstMoment_10 (by decide) (by decide) (by decide) (fun q => absurd q (by decide)) (fun _ => ?_)
  refine r_aload_n hX dX2_firstMoment_13 rfl rfl (r_get hX kf_X2_13 0 rfl rfl dX2_firstMoment_14 (r_iload_n hX dX2_firstMoment_17 rfl rfl (r_laldZ hX 2 1 rfl rfl 1 (by decide) (by decide) (by decide) dX2_firstMoment_18 (r_aload_n hX dX2_firstMoment_19 rfl rfl (r_get hX kf_X2_13 0 rfl rfl dX2_firstMoment_20 (r_iload_n hX dX2_firstMoment_23 rfl rfl (r_laldZ hX 2 1 rfl rfl 0 (by decide) (by decide) (by decide) dX2_firstMoment_24 ?_)))))))
  refine r_lif_geZ (tgt := 31) hX dX2_firstMoment_25 dX2_firstMoment_26 (by decide) (by first | with_reducible assumption | decide | omega) (by first | with_reducible assumption | decide | omega) (fun c1 => ?_) (fun c1 => ?_)
  · refine r_iincZ (z := 1) (y := 2) hX dX2_firstMoment_31 rfl (by decide) rfl rfl (r_goto (tgt := 4) hX dX2_firstMoment_34 (by decide) (r_iload_n hX dX2_firstMoment_4 rfl rfl (r_aload_n hX dX2_firstMoment_5 rfl rfl (r_get hX kf_X2_13 0 rfl rfl dX2_firstMoment_6 (r_alen (v := iZ 4) hX 2 1 rfl rfl rfl dX2_firstMoment_9 (r_icmp_geZ (tgt := 37) hX dX2_firstMoment_10 (by decide) (by decide) (by decide) (fun q => absurd q (by decide)) (fun _ => ?_)))))))
    refine r_aload_n hX dX2_firstMoment_13 rfl rfl (r_get hX kf_X2_13 0 rfl rfl dX2_firstMoment_14 (r_iload_n hX dX2_firstMoment_17 rfl rfl (r_laldZ hX 2 1 rfl rfl 2 (by decide) (by decide) (by decide) dX2_firstMoment_18 (r_aload_n hX dX2_firstMoment_19 rfl rfl (r_get hX kf_X2_13 0 rfl rfl dX2_firstMoment_20 (r_iload_n hX dX2_firstMoment_23 rfl rfl (r_laldZ hX 2 1 rfl rfl 0 (by decide) (by decide) (by decide) dX2_firstMoment_24 ?_)))))))
    refine r_lif_geZ (tgt := 31) hX dX2_firstMoment_25 dX2_firstMoment_26 (by decide) (by first | with_reducible assumption | decide | omega) (by first | with_reducible assumption | decide | omega) (fun c2 => ?_) (fun c2 => ?_)
    · refine r_iincZ (z := 1) (y := 3) hX dX2_firstMoment_31 rfl (by decide) rfl rfl (r_goto (tgt := 4) hX dX2_firstMoment_34 (by decide) (r_iload_n hX dX2_firstMoment_4 rfl rfl (r_aload_n hX dX2_firstMoment_5 rfl rfl (r_get hX kf_X2_13 0 rfl rfl dX2_firstMoment_6 (r_alen (v := iZ 4) hX 2 1 rfl rfl rfl dX2_firstMoment_9 (r_icmp_geZ (tgt := 37) hX dX2_firstMoment_10 (by decide) (by decide) (by decide) (fun q => absurd q (by decide)) (fun _ => ?_)))))))
      refine r_aload_n hX dX2_firstMoment_13 rfl rfl (r_get hX kf_X2_13 0 rfl rfl dX2_firstMoment_14 (r_iload_n hX dX2_firstMoment_17 rfl rfl (r_laldZ hX 2 1 rfl rfl 3 (by decide) (by decide) (by decide) dX2_firstMoment_18 (r_aload_n hX dX2_firstMoment_19 rfl rfl (r_get hX kf_X2_13 0 rfl rfl dX2_firstMoment_20 (r_iload_n hX dX2_firstMoment_23 rfl rfl (r_laldZ hX 2 1 rfl rfl 0 (by decide) (by decide) (by decide) dX2_firstMoment_24 ?_)))))))
      refine r_lif_geZ (tgt := 31) hX dX2_firstMoment_25 dX2_firstMoment_26 (by decide) (by first | with_reducible assumption | decide | omega) (by first | with_reducible assumption | decide | omega) (fun c3 => ?_) (fun c3 => ?_)
      · refine r_iincZ (z := 1) (y := 4) hX dX2_firstMoment_31 rfl (by decide) rfl rfl (r_goto (tgt := 4) hX dX2_firstMoment_34 (by decide) (r_iload_n hX dX2_firstMoment_4 rfl rfl (r_aload_n hX dX2_firstMoment_5 rfl rfl (r_get hX kf_X2_13 0 rfl rfl dX2_firstMoment_6 (r_alen (v := iZ 4) hX 2 1 rfl rfl rfl dX2_firstMoment_9 (r_icmp_geZ (tgt := 37) hX dX2_firstMoment_10 (by decide) (by decide) (by decide) (fun _ => ?_) (fun q => absurd (by decide) q)))))))
        refine r_iload_n hX dX2_firstMoment_37 rfl rfl (r_iret hX hE dX2_firstMoment_38 (Nat.le_of_ble_eq_true rfl) (Nat.le_of_ble_eq_true rfl) ⟨zi ?_, rfl⟩)
        have e : zFM S = 0 := zFst_1 (x := false) (a := 0) (y := false) (b := 0) (z := false) (decide_eq_false (by omega)) rfl (decide_eq_false (by omega)) rfl (decide_eq_false (by omega)) rfl
        rw [e]
        rfl
      · refine r_iload_n hX dX2_firstMoment_29 rfl rfl (r_istore_n hX dX2_firstMoment_30 rfl (by decide) rfl (r_iincZ (z := 1) (y := 4) hX dX2_firstMoment_31 rfl (by decide) rfl rfl (r_goto (tgt := 4) hX dX2_firstMoment_34 (by decide) (r_iload_n hX dX2_firstMoment_4 rfl rfl (r_aload_n hX dX2_firstMoment_5 rfl rfl (r_get hX kf_X2_13 0 rfl rfl dX2_firstMoment_6 (r_alen (v := iZ 4) hX 2 1 rfl rfl rfl dX2_firstMoment_9 ?_)))))))
        refine r_icmp_geZ (tgt := 37) hX dX2_firstMoment_10 (by decide) (by decide) (by decide) (fun _ => ?_) (fun q => absurd (by decide) q)
        refine r_iload_n hX dX2_firstMoment_37 rfl rfl (r_iret hX hE dX2_firstMoment_38 (Nat.le_of_ble_eq_true rfl) (Nat.le_of_ble_eq_true rfl) ⟨zi ?_, rfl⟩)
        have e : zFM S = 3 := zFst_1 (x := false) (a := 0) (y := false) (b := 0) (z := true) (decide_eq_false (by omega)) rfl (decide_eq_false (by omega)) rfl (decide_eq_true (by omega)) rfl
        rw [e]
        rfl
    · refine r_iload_n hX dX2_firstMoment_29 rfl rfl (r_istore_n hX dX2_firstMoment_30 rfl (by decide) rfl (r_iincZ (z := 1) (y := 3) hX dX2_firstMoment_31 rfl (by decide) rfl rfl (r_goto (tgt := 4) hX dX2_firstMoment_34 (by decide) (r_iload_n hX dX2_firstMoment_4 rfl rfl (r_aload_n hX dX2_firstMoment_5 rfl rfl (r_get hX kf_X2_13 0 rfl rfl dX2_firstMoment_6 (r_alen (v := iZ 4) hX 2 1 rfl rfl rfl dX2_firstMoment_9 ?_)))))))
      refine r_icmp_geZ (tgt := 37) hX dX2_firstMoment_10 (by decide) (by decide) (by decide) (fun q => absurd q (by decide)) (fun _ => ?_)
      refine r_aload_n hX dX2_firstMoment_13 rfl rfl (r_get hX kf_X2_13 0 rfl rfl dX2_firstMoment_14 (r_iload_n hX dX2_firstMoment_17 rfl rfl (r_laldZ hX 2 1 rfl rfl 3 (by decide) (by decide) (by decide) dX2_firstMoment_18 (r_aload_n hX dX2_firstMoment_19 rfl rfl (r_get hX kf_X2_13 0 rfl rfl dX2_firstMoment_20 (r_iload_n hX dX2_firstMoment_23 rfl rfl (r_laldZ hX 2 1 rfl rfl 2 (by decide) (by decide) (by decide) dX2_firstMoment_24 ?_)))))))
      refine r_lif_geZ (tgt := 31) hX dX2_firstMoment_25 dX2_firstMoment_26 (by decide) (by first | with_reducible assumption | decide | omega) (by first | with_reducible assumption | decide | omega) (fun c4 => ?_) (fun c4 => ?_)
      · refine r_iincZ (z := 1) (y := 4) hX dX2_firstMoment_31 rfl (by decide) rfl rfl (r_goto (tgt := 4) hX dX2_firstMoment_34 (by decide) (r_iload_n hX dX2_firstMoment_4 rfl rfl (r_aload_n hX dX2_firstMoment_5 rfl rfl (r_get hX kf_X2_13 0 rfl rfl dX2_firstMoment_6 (r_alen (v := iZ 4) hX 2 1 rfl rfl rfl dX2_firstMoment_9 (r_icmp_geZ (tgt := 37) hX dX2_firstMoment_10 (by decide) (by decide) (by decide) (fun _ => ?_) (fun q => absurd (by decide) q)))))))
        refine r_iload_n hX dX2_firstMoment_37 rfl rfl (r_iret hX hE dX2_firstMoment_38 (Nat.le_of_ble_eq_true rfl) (Nat.le_of_ble_eq_true rfl) ⟨zi ?_, rfl⟩)
        have e : zFM S = 2 := zFst_1 (x := false) (a := 0) (y := true) (b := 2) (z := false) (decide_eq_false (by omega)) rfl (decide_eq_true (by omega)) rfl (decide_eq_false (by omega)) rfl
        rw [e]
        rfl
      · refine r_iload_n hX dX2_firstMoment_29 rfl rfl (r_istore_n hX dX2_firstMoment_30 rfl (by decide) rfl (r_iincZ (z := 1) (y := 4) hX dX2_firstMoment_31 rfl (by decide) rfl rfl (r_goto (tgt := 4) hX dX2_firstMoment_34 (by decide) (r_iload_n hX dX2_firstMoment_4 rfl rfl (r_aload_n hX dX2_firstMoment_5 rfl rfl (r_get hX kf_X2_13 0 rfl rfl dX2_firstMoment_6 (r_alen (v := iZ 4) hX 2 1 rfl rfl rfl dX2_firstMoment_9 ?_)))))))
        refine r_icmp_geZ (tgt := 37) hX dX2_firstMoment_10 (by decide) (by decide) (by decide) (fun _ => ?_) (fun q => absurd (by decide) q)
        refine r_iload_n hX dX2_firstMoment_37 rfl rfl (r_iret hX hE dX2_firstMoment_38 (Nat.le_of_ble_eq_true rfl) (Nat.le_of_ble_eq_true rfl) ⟨zi ?_, rfl⟩)
        have e : zFM S = 3 := zFst_1 (x := false) (a := 0) (y := true) (b := 2) (z := true) (decide_eq_false (by omega)) rfl (decide_eq_true (by omega)) rfl (decide_eq_true (by omega)) rfl
        rw [e]
        rfl
  · refine r_iload_n hX dX2_firstMoment_29 rfl rfl (r_istore_n hX dX2_firstMoment_30 rfl (by decide) rfl (r_iincZ (z := 1) (y := 2) hX dX2_firstMoment_31 rfl (by decide) rfl rfl (r_goto (tgt := 4) hX dX2_firstMoment_34 (by decide) (r_iload_n hX dX2_firstMoment_4 rfl rfl (r_aload_n hX dX2_firstMoment_5 rfl rfl (r_get hX kf_X2_13 0 rfl rfl dX2_firstMoment_6 (r_alen (v := iZ 4) hX 2 1 rfl rfl rfl dX2_firstMoment_9 ?_)))))))
    refine r_icmp_geZ (tgt := 37) hX dX2_firstMoment_10 (by decide) (by decide) (by decide) (fun q => absurd q (by decide)) (fun _ => ?_)
    refine r_aload_n hX dX2_firstMoment_13 rfl rfl (r_get hX kf_X2_13 0 rfl rfl dX2_firstMoment_14 (r_iload_n hX dX2_firstMoment_17 rfl rfl (r_laldZ hX 2 1 rfl rfl 2 (by decide) (by decide) (by decide) dX2_firstMoment_18 (r_aload_n hX dX2_firstMoment_19 rfl rfl (r_get hX kf_X2_13 0 rfl rfl dX2_firstMoment_20 (r_iload_n hX dX2_firstMoment_23 rfl rfl (r_laldZ hX 2 1 rfl rfl 1 (by decide) (by decide) (by decide) dX2_firstMoment_24 ?_)))))))
    refine r_lif_geZ (tgt := 31) hX dX2_firstMoment_25 dX2_firstMoment_26 (by decide) (by first | with_reducible assumption | decide | omega) (by first | with_reducible assumption | decide | omega) (fun c5 => ?_) (fun c5 => ?_)
    · refine r_iincZ (z := 1) (y := 3) hX dX2_firstMoment_31 rfl (by decide) rfl rfl (r_goto (tgt := 4) hX dX2_firstMoment_34 (by decide) (r_iload_n hX dX2_firstMoment_4 rfl rfl (r_aload_n hX dX2_firstMoment_5 rfl rfl (r_get hX kf_X2_13 0 rfl rfl dX2_firstMoment_6 (r_alen (v := iZ 4) hX 2 1 rfl rfl rfl dX2_firstMoment_9 (r_icmp_geZ (tgt := 37) hX dX2_firstMoment_10 (by decide) (by decide) (by decide) (fun q => absurd q (by decide)) (fun _ => ?_)))))))
      refine r_aload_n hX dX2_firstMoment_13 rfl rfl (r_get hX kf_X2_13 0 rfl rfl dX2_firstMoment_14 (r_iload_n hX dX2_firstMoment_17 rfl rfl (r_laldZ hX 2 1 rfl rfl 3 (by decide) (by decide) (by decide) dX2_firstMoment_18 (r_aload_n hX dX2_firstMoment_19 rfl rfl (r_get hX kf_X2_13 0 rfl rfl dX2_firstMoment_20 (r_iload_n hX dX2_firstMoment_23 rfl rfl (r_laldZ hX 2 1 rfl rfl 1 (by decide) (by decide) (by decide) dX2_firstMoment_24 ?_)))))))
      refine r_lif_geZ (tgt := 31) hX dX2_firstMoment_25 dX2_firstMoment_26 (by decide) (by first | with_reducible assumption | decide | omega) (by first | with_reducible assumption | decide | omega) (fun c6 => ?_) (fun c6 => ?_)
      · refine r_iincZ (z := 1) (y := 4) hX dX2_firstMoment_31 rfl (by decide) rfl rfl (r_goto (tgt := 4) hX dX2_firstMoment_34 (by decide) (r_iload_n hX dX2_firstMoment_4 rfl rfl (r_aload_n hX dX2_firstMoment_5 rfl rfl (r_get hX kf_X2_13 0 rfl rfl dX2_firstMoment_6 (r_alen (v := iZ 4) hX 2 1 rfl rfl rfl dX2_firstMoment_9 (r_icmp_geZ (tgt := 37) hX dX2_firstMoment_10 (by decide) (by decide) (by decide) (fun _ => ?_) (fun q => absurd (by decide) q)))))))
        refine r_iload_n hX dX2_firstMoment_37 rfl rfl (r_iret hX hE dX2_firstMoment_38 (Nat.le_of_ble_eq_true rfl) (Nat.le_of_ble_eq_true rfl) ⟨zi ?_, rfl⟩)
        have e : zFM S = 1 := zFst_1 (x := true) (a := 1) (y := false) (b := 1) (z := false) (decide_eq_true (by omega)) rfl (decide_eq_false (by omega)) rfl (decide_eq_false (by omega)) rfl
        rw [e]
        rfl
      · refine r_iload_n hX dX2_firstMoment_29 rfl rfl (r_istore_n hX dX2_firstMoment_30 rfl (by decide) rfl (r_iincZ (z := 1) (y := 4) hX dX2_firstMoment_31 rfl (by decide) rfl rfl (r_goto (tgt := 4) hX dX2_firstMoment_34 (by decide) (r_iload_n hX dX2_firstMoment_4 rfl rfl (r_aload_n hX dX2_firstMoment_5 rfl rfl (r_get hX kf_X2_13 0 rfl rfl dX2_firstMoment_6 (r_alen (v := iZ 4) hX 2 1 rfl rfl rfl dX2_firstMoment_9 ?_)))))))
        refine r_icmp_geZ (tgt := 37) hX dX2_firstMoment_10 (by decide) (by decide) (by decide) (fun _ => ?_) (fun q => absurd (by decide) q)
        refine r_iload_n hX dX2_firstMoment_37 rfl rfl (r_iret hX hE dX2_firstMoment_38 (Nat.le_of_ble_eq_true rfl) (Nat.le_of_ble_eq_true rfl) ⟨zi ?_, rfl⟩)
        have e : zFM S = 3 := zFst_1 (x := true) (a := 1) (y := false) (b := 1) (z := true) (decide_eq_true (by omega)) rfl (decide_eq_false (by omega)) rfl (decide_eq_true (by omega)) rfl
        rw [e]
        rfl
    · refine r_iload_n hX dX2_firstMoment_29 rfl rfl (r_istore_n hX dX2_firstMoment_30 rfl (by decide) rfl (r_iincZ (z := 1) (y := 3) hX dX2_firstMoment_31 rfl (by decide) rfl rfl (r_goto (tgt := 4) hX dX2_firstMoment_34 (by decide) (r_iload_n hX dX2_firstMoment_4 rfl rfl (r_aload_n hX dX2_firstMoment_5 rfl rfl (r_get hX kf_X2_13 0 rfl rfl dX2_firstMoment_6 (r_alen (v := iZ 4) hX 2 1 rfl rfl rfl dX2_firstMoment_9 ?_)))))))
      refine r_icmp_geZ (tgt := 37) hX dX2_firstMoment_10 (by decide) (by decide) (by decide) (fun q => absurd q (by decide)) (fun _ => ?_)
      refine r_aload_n hX dX2_firstMoment_13 rfl rfl (r_get hX kf_X2_13 0 rfl rfl dX2_firstMoment_14 (r_iload_n hX dX2_firstMoment_17 rfl rfl (r_laldZ hX 2 1 rfl rfl 3 (by decide) (by decide) (by decide) dX2_firstMoment_18 (r_aload_n hX dX2_firstMoment_19 rfl rfl (r_get hX kf_X2_13 0 rfl rfl dX2_firstMoment_20 (r_iload_n hX dX2_firstMoment_23 rfl rfl (r_laldZ hX 2 1 rfl rfl 2 (by decide) (by decide) (by decide) dX2_firstMoment_24 ?_)))))))
      refine r_lif_geZ (tgt := 31) hX dX2_firstMoment_25 dX2_firstMoment_26 (by decide) (by first | with_reducible assumption | decide | omega) (by first | with_reducible assumption | decide | omega) (fun c7 => ?_) (fun c7 => ?_)
      · refine r_iincZ (z := 1) (y := 4) hX dX2_firstMoment_31 rfl (by decide) rfl rfl (r_goto (tgt := 4) hX dX2_firstMoment_34 (by decide) (r_iload_n hX dX2_firstMoment_4 rfl rfl (r_aload_n hX dX2_firstMoment_5 rfl rfl (r_get hX kf_X2_13 0 rfl rfl dX2_firstMoment_6 (r_alen (v := iZ 4) hX 2 1 rfl rfl rfl dX2_firstMoment_9 (r_icmp_geZ (tgt := 37) hX dX2_firstMoment_10 (by decide) (by decide) (by decide) (fun _ => ?_) (fun q => absurd (by decide) q)))))))
        refine r_iload_n hX dX2_firstMoment_37 rfl rfl (r_iret hX hE dX2_firstMoment_38 (Nat.le_of_ble_eq_true rfl) (Nat.le_of_ble_eq_true rfl) ⟨zi ?_, rfl⟩)
        have e : zFM S = 2 := zFst_1 (x := true) (a := 1) (y := true) (b := 2) (z := false) (decide_eq_true (by omega)) rfl (decide_eq_true (by omega)) rfl (decide_eq_false (by omega)) rfl
        rw [e]
        rfl
      · refine r_iload_n hX dX2_firstMoment_29 rfl rfl (r_istore_n hX dX2_firstMoment_30 rfl (by decide) rfl (r_iincZ (z := 1) (y := 4) hX dX2_firstMoment_31 rfl (by decide) rfl rfl (r_goto (tgt := 4) hX dX2_firstMoment_34 (by decide) (r_iload_n hX dX2_firstMoment_4 rfl rfl (r_aload_n hX dX2_firstMoment_5 rfl rfl (r_get hX kf_X2_13 0 rfl rfl dX2_firstMoment_6 (r_alen (v := iZ 4) hX 2 1 rfl rfl rfl dX2_firstMoment_9 ?_)))))))
        refine r_icmp_geZ (tgt := 37) hX dX2_firstMoment_10 (by decide) (by decide) (by decide) (fun _ => ?_) (fun q => absurd (by decide) q)
        refine r_iload_n hX dX2_firstMoment_37 rfl rfl (r_iret hX hE dX2_firstMoment_38 (Nat.le_of_ble_eq_true rfl) (Nat.le_of_ble_eq_true rfl) ⟨zi ?_, rfl⟩)
        have e : zFM S = 3 := zFst_1 (x := true) (a := 1) (y := true) (b := 2) (z := true) (decide_eq_true (by omega)) rfl (decide_eq_true (by omega)) rfl (decide_eq_true (by omega)) rfl
        rw [e]
        rfl
set_option maxHeartbeats 4000000 in
set_option maxRecDepth 20000 in
theorem z_X2_firstDated (ad : Nat → Nat) (cs : ClassId × ClassId × ClassId) (S : mS) (T : mT2) (rest : va_W) (hS : sWF S)  : mCt (mTy cs) yX2_firstDated cX2_firstDated 3 (some .int) ⟨3, 0, 0, 67⟩ [.ref (ad 0)] (mWd ad cs (mKof S T) rest) (fun v ws' => v = some (.int (iZ (zFD S : Nat))) ∧ ws' = (mWd ad cs (mKof S T) rest)) mNo := by
  refine mCt.of (by decide +kernel) (Nat.le_of_ble_eq_true rfl) (fun X hX hE => ?_)
  replace hX : mOK X RX2 cX2_firstDated 3 ⟨3, 0, 0, 67⟩ [] (mTy cs) := hX
  refine r_iconstZ hX dX2_firstDated_0 (r_istore_n hX dX2_firstDated_1 rfl (by decide) rfl (r_iconstZ hX dX2_firstDated_2 (r_istore_n hX dX2_firstDated_3 rfl (by decide) rfl (r_iload_n hX dX2_firstDated_4 rfl rfl (r_aload_n hX dX2_firstDated_5 rfl rfl (r_get hX kf_X2_20 0 rfl rfl dX2_firstDated_6 (r_alen (v := iZ 4) hX 3 2 rfl rfl rfl dX2_firstDated_9 ?_)))))))
  refine r_icmp_geZ (tgt := 43) hX dX2_firstDated_10 (by decide) (by decide) (by decide) (fun q => absurd q (by decide)) (fun _ => ?_)
  refine r_aload_n hX dX2_firstDated_13 rfl rfl (r_get hX kf_X2_20 0 rfl rfl dX2_firstDated_14 (r_iload_n hX dX2_firstDated_17 rfl rfl (r_callS hX (z_X2_at_ok ad cs _ 3 _ 4 0 rfl (by decide) _ 1 (by first | with_reducible assumption | decide | omega) (by decide)) ks_X2_84 rfl rfl (Nat.le_of_ble_eq_true rfl) ⟨(Nat.le_of_ble_eq_true rfl), (Nat.le_of_ble_eq_true rfl)⟩ ⟨(Nat.le_of_ble_eq_true rfl), (Nat.le_of_ble_eq_true rfl)⟩ dX2_firstDated_18 (fun _ _ z => False.elim z) (fun v9 ws9 h1 => ?_))))
  obtain ⟨rfl, hw9⟩ := h1
  subst ws9
  dsimp only [mPush]
  refine r_aload_n hX dX2_firstDated_21 rfl rfl (r_get hX kf_X2_20 0 rfl rfl dX2_firstDated_22 (r_iload_n hX dX2_firstDated_25 rfl rfl (r_callS hX (z_X2_at_ok ad cs _ 3 _ 4 0 rfl (by decide) _ 0 (by first | with_reducible assumption | decide | omega) (by decide)) ks_X2_84 rfl rfl (Nat.le_of_ble_eq_true rfl) ⟨(Nat.le_of_ble_eq_true rfl), (Nat.le_of_ble_eq_true rfl)⟩ ⟨(Nat.le_of_ble_eq_true rfl), (Nat.le_of_ble_eq_true rfl)⟩ dX2_firstDated_26 (fun _ _ z => False.elim z) (fun v9 ws9 h2 => ?_))))
  obtain ⟨rfl, hw9⟩ := h2
  subst ws9
  dsimp only [mPush]
  refine r_callV hX (z_X1_orderTo _ _ (1 + 5) _ _ _ _ (zWd_loc (d := 1) (by decide)) (zrg hS (by decide)) (0 + 5) _ _ _ _ (zWd_loc (d := 0) (by decide)) (zrg hS (by decide))) kv_X2_179 (1 + 5) (zWd_loc (d := 1) (by decide)) rfl rfl rfl (Nat.le_of_ble_eq_true rfl) ⟨(Nat.le_of_ble_eq_true rfl), (Nat.le_of_ble_eq_true rfl)⟩ ⟨(Nat.le_of_ble_eq_true rfl), (Nat.le_of_ble_eq_true rfl)⟩ dX2_firstDated_29 (fun _ _ z => False.elim z) (fun v9 ws9 h3 => ?_)
  obtain ⟨rfl, hw9⟩ := h3
  subst ws9
  dsimp only [mPush]
  have hb3 := zTo_b (sse S 1) (sna S 1) (sow S 1) (sse S 0) (sna S 0) (sow S 0)
  refine r_if_geZ (tgt := 37) hX dX2_firstDated_32 (by decide) (by first | with_reducible assumption | decide | omega) (fun c4 => ?_) (fun c4 => ?_)
  · refine r_iincZ (z := 1) (y := 2) hX dX2_firstDated_37 rfl (by decide) rfl rfl (r_goto (tgt := 4) hX dX2_firstDated_40 (by decide) (r_iload_n hX dX2_firstDated_4 rfl rfl (r_aload_n hX dX2_firstDated_5 rfl rfl (r_get hX kf_X2_20 0 rfl rfl dX2_firstDated_6 (r_alen (v := iZ 4) hX 3 2 rfl rfl rfl dX2_firstDated_9 (r_icmp_geZ (tgt := 43) hX dX2_firstDated_10 (by decide) (by decide) (by decide) (fun q => absurd q (by decide)) (fun _ => ?_)))))))
    refine r_aload_n hX dX2_firstDated_13 rfl rfl (r_get hX kf_X2_20 0 rfl rfl dX2_firstDated_14 (r_iload_n hX dX2_firstDated_17 rfl rfl (r_callS hX (z_X2_at_ok ad cs _ 3 _ 4 0 rfl (by decide) _ 2 (by first | with_reducible assumption | decide | omega) (by decide)) ks_X2_84 rfl rfl (Nat.le_of_ble_eq_true rfl) ⟨(Nat.le_of_ble_eq_true rfl), (Nat.le_of_ble_eq_true rfl)⟩ ⟨(Nat.le_of_ble_eq_true rfl), (Nat.le_of_ble_eq_true rfl)⟩ dX2_firstDated_18 (fun _ _ z => False.elim z) (fun v9 ws9 h5 => ?_))))
    obtain ⟨rfl, hw9⟩ := h5
    subst ws9
    dsimp only [mPush]
    refine r_aload_n hX dX2_firstDated_21 rfl rfl (r_get hX kf_X2_20 0 rfl rfl dX2_firstDated_22 (r_iload_n hX dX2_firstDated_25 rfl rfl (r_callS hX (z_X2_at_ok ad cs _ 3 _ 4 0 rfl (by decide) _ 0 (by first | with_reducible assumption | decide | omega) (by decide)) ks_X2_84 rfl rfl (Nat.le_of_ble_eq_true rfl) ⟨(Nat.le_of_ble_eq_true rfl), (Nat.le_of_ble_eq_true rfl)⟩ ⟨(Nat.le_of_ble_eq_true rfl), (Nat.le_of_ble_eq_true rfl)⟩ dX2_firstDated_26 (fun _ _ z => False.elim z) (fun v9 ws9 h6 => ?_))))
    obtain ⟨rfl, hw9⟩ := h6
    subst ws9
    dsimp only [mPush]
    refine r_callV hX (z_X1_orderTo _ _ (2 + 5) _ _ _ _ (zWd_loc (d := 2) (by decide)) (zrg hS (by decide)) (0 + 5) _ _ _ _ (zWd_loc (d := 0) (by decide)) (zrg hS (by decide))) kv_X2_179 (2 + 5) (zWd_loc (d := 2) (by decide)) rfl rfl rfl (Nat.le_of_ble_eq_true rfl) ⟨(Nat.le_of_ble_eq_true rfl), (Nat.le_of_ble_eq_true rfl)⟩ ⟨(Nat.le_of_ble_eq_true rfl), (Nat.le_of_ble_eq_true rfl)⟩ dX2_firstDated_29 (fun _ _ z => False.elim z) (fun v9 ws9 h7 => ?_)
    obtain ⟨rfl, hw9⟩ := h7
    subst ws9
    dsimp only [mPush]
    have hb7 := zTo_b (sse S 2) (sna S 2) (sow S 2) (sse S 0) (sna S 0) (sow S 0)
    refine r_if_geZ (tgt := 37) hX dX2_firstDated_32 (by decide) (by first | with_reducible assumption | decide | omega) (fun c8 => ?_) (fun c8 => ?_)
    · refine r_iincZ (z := 1) (y := 3) hX dX2_firstDated_37 rfl (by decide) rfl rfl (r_goto (tgt := 4) hX dX2_firstDated_40 (by decide) (r_iload_n hX dX2_firstDated_4 rfl rfl (r_aload_n hX dX2_firstDated_5 rfl rfl (r_get hX kf_X2_20 0 rfl rfl dX2_firstDated_6 (r_alen (v := iZ 4) hX 3 2 rfl rfl rfl dX2_firstDated_9 (r_icmp_geZ (tgt := 43) hX dX2_firstDated_10 (by decide) (by decide) (by decide) (fun q => absurd q (by decide)) (fun _ => ?_)))))))
      refine r_aload_n hX dX2_firstDated_13 rfl rfl (r_get hX kf_X2_20 0 rfl rfl dX2_firstDated_14 (r_iload_n hX dX2_firstDated_17 rfl rfl (r_callS hX (z_X2_at_ok ad cs _ 3 _ 4 0 rfl (by decide) _ 3 (by first | with_reducible assumption | decide | omega) (by decide)) ks_X2_84 rfl rfl (Nat.le_of_ble_eq_true rfl) ⟨(Nat.le_of_ble_eq_true rfl), (Nat.le_of_ble_eq_true rfl)⟩ ⟨(Nat.le_of_ble_eq_true rfl), (Nat.le_of_ble_eq_true rfl)⟩ dX2_firstDated_18 (fun _ _ z => False.elim z) (fun v9 ws9 h9 => ?_))))
      obtain ⟨rfl, hw9⟩ := h9
      subst ws9
      dsimp only [mPush]
      refine r_aload_n hX dX2_firstDated_21 rfl rfl (r_get hX kf_X2_20 0 rfl rfl dX2_firstDated_22 (r_iload_n hX dX2_firstDated_25 rfl rfl (r_callS hX (z_X2_at_ok ad cs _ 3 _ 4 0 rfl (by decide) _ 0 (by first | with_reducible assumption | decide | omega) (by decide)) ks_X2_84 rfl rfl (Nat.le_of_ble_eq_true rfl) ⟨(Nat.le_of_ble_eq_true rfl), (Nat.le_of_ble_eq_true rfl)⟩ ⟨(Nat.le_of_ble_eq_true rfl), (Nat.le_of_ble_eq_true rfl)⟩ dX2_firstDated_26 (fun _ _ z => False.elim z) (fun v9 ws9 h10 => ?_))))
      obtain ⟨rfl, hw9⟩ := h10
      subst ws9
      dsimp only [mPush]
      refine r_callV hX (z_X1_orderTo _ _ (3 + 5) _ _ _ _ (zWd_loc (d := 3) (by decide)) (zrg hS (by decide)) (0 + 5) _ _ _ _ (zWd_loc (d := 0) (by decide)) (zrg hS (by decide))) kv_X2_179 (3 + 5) (zWd_loc (d := 3) (by decide)) rfl rfl rfl (Nat.le_of_ble_eq_true rfl) ⟨(Nat.le_of_ble_eq_true rfl), (Nat.le_of_ble_eq_true rfl)⟩ ⟨(Nat.le_of_ble_eq_true rfl), (Nat.le_of_ble_eq_true rfl)⟩ dX2_firstDated_29 (fun _ _ z => False.elim z) (fun v9 ws9 h11 => ?_)
      obtain ⟨rfl, hw9⟩ := h11
      subst ws9
      dsimp only [mPush]
      have hb11 := zTo_b (sse S 3) (sna S 3) (sow S 3) (sse S 0) (sna S 0) (sow S 0)
      refine r_if_geZ (tgt := 37) hX dX2_firstDated_32 (by decide) (by first | with_reducible assumption | decide | omega) (fun c12 => ?_) (fun c12 => ?_)
      · refine r_iincZ (z := 1) (y := 4) hX dX2_firstDated_37 rfl (by decide) rfl rfl (r_goto (tgt := 4) hX dX2_firstDated_40 (by decide) (r_iload_n hX dX2_firstDated_4 rfl rfl (r_aload_n hX dX2_firstDated_5 rfl rfl (r_get hX kf_X2_20 0 rfl rfl dX2_firstDated_6 (r_alen (v := iZ 4) hX 3 2 rfl rfl rfl dX2_firstDated_9 (r_icmp_geZ (tgt := 43) hX dX2_firstDated_10 (by decide) (by decide) (by decide) (fun _ => ?_) (fun q => absurd (by decide) q)))))))
        refine r_iload_n hX dX2_firstDated_43 rfl rfl (r_iret hX hE dX2_firstDated_44 (Nat.le_of_ble_eq_true rfl) (Nat.le_of_ble_eq_true rfl) ⟨zi ?_, rfl⟩)
        have e : zFD S = 0 := zFst_1 (x := false) (a := 0) (y := false) (b := 0) (z := false) (decide_eq_false (by omega)) rfl (decide_eq_false (by omega)) rfl (decide_eq_false (by omega)) rfl
        rw [e]
        rfl
      · refine r_iload_n hX dX2_firstDated_35 rfl rfl (r_istore_n hX dX2_firstDated_36 rfl (by decide) rfl (r_iincZ (z := 1) (y := 4) hX dX2_firstDated_37 rfl (by decide) rfl rfl (r_goto (tgt := 4) hX dX2_firstDated_40 (by decide) (r_iload_n hX dX2_firstDated_4 rfl rfl (r_aload_n hX dX2_firstDated_5 rfl rfl (r_get hX kf_X2_20 0 rfl rfl dX2_firstDated_6 (r_alen (v := iZ 4) hX 3 2 rfl rfl rfl dX2_firstDated_9 ?_)))))))
        refine r_icmp_geZ (tgt := 43) hX dX2_firstDated_10 (by decide) (by decide) (by decide) (fun _ => ?_) (fun q => absurd (by decide) q)
        refine r_iload_n hX dX2_firstDated_43 rfl rfl (r_iret hX hE dX2_firstDated_44 (Nat.le_of_ble_eq_true rfl) (Nat.le_of_ble_eq_true rfl) ⟨zi ?_, rfl⟩)
        have e : zFD S = 3 := zFst_1 (x := false) (a := 0) (y := false) (b := 0) (z := true) (decide_eq_false (by omega)) rfl (decide_eq_false (by omega)) rfl (decide_eq_true (by omega)) rfl
        rw [e]
        rfl
    · refine r_iload_n hX dX2_firstDated_35 rfl rfl (r_istore_n hX dX2_firstDated_36 rfl (by decide) rfl (r_iincZ (z := 1) (y := 3) hX dX2_firstDated_37 rfl (by decide) rfl rfl (r_goto (tgt := 4) hX dX2_firstDated_40 (by decide) (r_iload_n hX dX2_firstDated_4 rfl rfl (r_aload_n hX dX2_firstDated_5 rfl rfl (r_get hX kf_X2_20 0 rfl rfl dX2_firstDated_6 (r_alen (v := iZ 4) hX 3 2 rfl rfl rfl dX2_firstDated_9 ?_)))))))
      refine r_icmp_geZ (tgt := 43) hX dX2_firstDated_10 (by decide) (by decide) (by decide) (fun q => absurd q (by decide)) (fun _ => ?_)
      refine r_aload_n hX dX2_firstDated_13 rfl rfl (r_get hX kf_X2_20 0 rfl rfl dX2_firstDated_14 (r_iload_n hX dX2_firstDated_17 rfl rfl (r_callS hX (z_X2_at_ok ad cs _ 3 _ 4 0 rfl (by decide) _ 3 (by first | with_reducible assumption | decide | omega) (by decide)) ks_X2_84 rfl rfl (Nat.le_of_ble_eq_true rfl) ⟨(Nat.le_of_ble_eq_true rfl), (Nat.le_of_ble_eq_true rfl)⟩ ⟨(Nat.le_of_ble_eq_true rfl), (Nat.le_of_ble_eq_true rfl)⟩ dX2_firstDated_18 (fun _ _ z => False.elim z) (fun v9 ws9 h13 => ?_))))
      obtain ⟨rfl, hw9⟩ := h13
      subst ws9
      dsimp only [mPush]
      refine r_aload_n hX dX2_firstDated_21 rfl rfl (r_get hX kf_X2_20 0 rfl rfl dX2_firstDated_22 (r_iload_n hX dX2_firstDated_25 rfl rfl (r_callS hX (z_X2_at_ok ad cs _ 3 _ 4 0 rfl (by decide) _ 2 (by first | with_reducible assumption | decide | omega) (by decide)) ks_X2_84 rfl rfl (Nat.le_of_ble_eq_true rfl) ⟨(Nat.le_of_ble_eq_true rfl), (Nat.le_of_ble_eq_true rfl)⟩ ⟨(Nat.le_of_ble_eq_true rfl), (Nat.le_of_ble_eq_true rfl)⟩ dX2_firstDated_26 (fun _ _ z => False.elim z) (fun v9 ws9 h14 => ?_))))
      obtain ⟨rfl, hw9⟩ := h14
      subst ws9
      dsimp only [mPush]
      refine r_callV hX (z_X1_orderTo _ _ (3 + 5) _ _ _ _ (zWd_loc (d := 3) (by decide)) (zrg hS (by decide)) (2 + 5) _ _ _ _ (zWd_loc (d := 2) (by decide)) (zrg hS (by decide))) kv_X2_179 (3 + 5) (zWd_loc (d := 3) (by decide)) rfl rfl rfl (Nat.le_of_ble_eq_true rfl) ⟨(Nat.le_of_ble_eq_true rfl), (Nat.le_of_ble_eq_true rfl)⟩ ⟨(Nat.le_of_ble_eq_true rfl), (Nat.le_of_ble_eq_true rfl)⟩ dX2_firstDated_29 (fun _ _ z => False.elim z) (fun v9 ws9 h15 => ?_)
      obtain ⟨rfl, hw9⟩ := h15
      subst ws9
      dsimp only [mPush]
      have hb15 := zTo_b (sse S 3) (sna S 3) (sow S 3) (sse S 2) (sna S 2) (sow S 2)
      refine r_if_geZ (tgt := 37) hX dX2_firstDated_32 (by decide) (by first | with_reducible assumption | decide | omega) (fun c16 => ?_) (fun c16 => ?_)
      · refine r_iincZ (z := 1) (y := 4) hX dX2_firstDated_37 rfl (by decide) rfl rfl (r_goto (tgt := 4) hX dX2_firstDated_40 (by decide) (r_iload_n hX dX2_firstDated_4 rfl rfl (r_aload_n hX dX2_firstDated_5 rfl rfl (r_get hX kf_X2_20 0 rfl rfl dX2_firstDated_6 (r_alen (v := iZ 4) hX 3 2 rfl rfl rfl dX2_firstDated_9 (r_icmp_geZ (tgt := 43) hX dX2_firstDated_10 (by decide) (by decide) (by decide) (fun _ => ?_) (fun q => absurd (by decide) q)))))))
        refine r_iload_n hX dX2_firstDated_43 rfl rfl (r_iret hX hE dX2_firstDated_44 (Nat.le_of_ble_eq_true rfl) (Nat.le_of_ble_eq_true rfl) ⟨zi ?_, rfl⟩)
        have e : zFD S = 2 := zFst_1 (x := false) (a := 0) (y := true) (b := 2) (z := false) (decide_eq_false (by omega)) rfl (decide_eq_true (by omega)) rfl (decide_eq_false (by omega)) rfl
        rw [e]
        rfl
      · refine r_iload_n hX dX2_firstDated_35 rfl rfl (r_istore_n hX dX2_firstDated_36 rfl (by decide) rfl (r_iincZ (z := 1) (y := 4) hX dX2_firstDated_37 rfl (by decide) rfl rfl (r_goto (tgt := 4) hX dX2_firstDated_40 (by decide) (r_iload_n hX dX2_firstDated_4 rfl rfl (r_aload_n hX dX2_firstDated_5 rfl rfl (r_get hX kf_X2_20 0 rfl rfl dX2_firstDated_6 (r_alen (v := iZ 4) hX 3 2 rfl rfl rfl dX2_firstDated_9 ?_)))))))
        refine r_icmp_geZ (tgt := 43) hX dX2_firstDated_10 (by decide) (by decide) (by decide) (fun _ => ?_) (fun q => absurd (by decide) q)
        refine r_iload_n hX dX2_firstDated_43 rfl rfl (r_iret hX hE dX2_firstDated_44 (Nat.le_of_ble_eq_true rfl) (Nat.le_of_ble_eq_true rfl) ⟨zi ?_, rfl⟩)
        have e : zFD S = 3 := zFst_1 (x := false) (a := 0) (y := true) (b := 2) (z := true) (decide_eq_false (by omega)) rfl (decide_eq_true (by omega)) rfl (decide_eq_true (by omega)) rfl
        rw [e]
        rfl
  · refine r_iload_n hX dX2_firstDated_35 rfl rfl (r_istore_n hX dX2_firstDated_36 rfl (by decide) rfl (r_iincZ (z := 1) (y := 2) hX dX2_firstDated_37 rfl (by decide) rfl rfl (r_goto (tgt := 4) hX dX2_firstDated_40 (by decide) (r_iload_n hX dX2_firstDated_4 rfl rfl (r_aload_n hX dX2_firstDated_5 rfl rfl (r_get hX kf_X2_20 0 rfl rfl dX2_firstDated_6 (r_alen (v := iZ 4) hX 3 2 rfl rfl rfl dX2_firstDated_9 ?_)))))))
    refine r_icmp_geZ (tgt := 43) hX dX2_firstDated_10 (by decide) (by decide) (by decide) (fun q => absurd q (by decide)) (fun _ => ?_)
    refine r_aload_n hX dX2_firstDated_13 rfl rfl (r_get hX kf_X2_20 0 rfl rfl dX2_firstDated_14 (r_iload_n hX dX2_firstDated_17 rfl rfl (r_callS hX (z_X2_at_ok ad cs _ 3 _ 4 0 rfl (by decide) _ 2 (by first | with_reducible assumption | decide | omega) (by decide)) ks_X2_84 rfl rfl (Nat.le_of_ble_eq_true rfl) ⟨(Nat.le_of_ble_eq_true rfl), (Nat.le_of_ble_eq_true rfl)⟩ ⟨(Nat.le_of_ble_eq_true rfl), (Nat.le_of_ble_eq_true rfl)⟩ dX2_firstDated_18 (fun _ _ z => False.elim z) (fun v9 ws9 h17 => ?_))))
    obtain ⟨rfl, hw9⟩ := h17
    subst ws9
    dsimp only [mPush]
    refine r_aload_n hX dX2_firstDated_21 rfl rfl (r_get hX kf_X2_20 0 rfl rfl dX2_firstDated_22 (r_iload_n hX dX2_firstDated_25 rfl rfl (r_callS hX (z_X2_at_ok ad cs _ 3 _ 4 0 rfl (by decide) _ 1 (by first | with_reducible assumption | decide | omega) (by decide)) ks_X2_84 rfl rfl (Nat.le_of_ble_eq_true rfl) ⟨(Nat.le_of_ble_eq_true rfl), (Nat.le_of_ble_eq_true rfl)⟩ ⟨(Nat.le_of_ble_eq_true rfl), (Nat.le_of_ble_eq_true rfl)⟩ dX2_firstDated_26 (fun _ _ z => False.elim z) (fun v9 ws9 h18 => ?_))))
    obtain ⟨rfl, hw9⟩ := h18
    subst ws9
    dsimp only [mPush]
    refine r_callV hX (z_X1_orderTo _ _ (2 + 5) _ _ _ _ (zWd_loc (d := 2) (by decide)) (zrg hS (by decide)) (1 + 5) _ _ _ _ (zWd_loc (d := 1) (by decide)) (zrg hS (by decide))) kv_X2_179 (2 + 5) (zWd_loc (d := 2) (by decide)) rfl rfl rfl (Nat.le_of_ble_eq_true rfl) ⟨(Nat.le_of_ble_eq_true rfl), (Nat.le_of_ble_eq_true rfl)⟩ ⟨(Nat.le_of_ble_eq_true rfl), (Nat.le_of_ble_eq_true rfl)⟩ dX2_firstDated_29 (fun _ _ z => False.elim z) (fun v9 ws9 h19 => ?_)
    obtain ⟨rfl, hw9⟩ := h19
    subst ws9
    dsimp only [mPush]
    have hb19 := zTo_b (sse S 2) (sna S 2) (sow S 2) (sse S 1) (sna S 1) (sow S 1)
    refine r_if_geZ (tgt := 37) hX dX2_firstDated_32 (by decide) (by first | with_reducible assumption | decide | omega) (fun c20 => ?_) (fun c20 => ?_)
    · refine r_iincZ (z := 1) (y := 3) hX dX2_firstDated_37 rfl (by decide) rfl rfl (r_goto (tgt := 4) hX dX2_firstDated_40 (by decide) (r_iload_n hX dX2_firstDated_4 rfl rfl (r_aload_n hX dX2_firstDated_5 rfl rfl (r_get hX kf_X2_20 0 rfl rfl dX2_firstDated_6 (r_alen (v := iZ 4) hX 3 2 rfl rfl rfl dX2_firstDated_9 (r_icmp_geZ (tgt := 43) hX dX2_firstDated_10 (by decide) (by decide) (by decide) (fun q => absurd q (by decide)) (fun _ => ?_)))))))
      refine r_aload_n hX dX2_firstDated_13 rfl rfl (r_get hX kf_X2_20 0 rfl rfl dX2_firstDated_14 (r_iload_n hX dX2_firstDated_17 rfl rfl (r_callS hX (z_X2_at_ok ad cs _ 3 _ 4 0 rfl (by decide) _ 3 (by first | with_reducible assumption | decide | omega) (by decide)) ks_X2_84 rfl rfl (Nat.le_of_ble_eq_true rfl) ⟨(Nat.le_of_ble_eq_true rfl), (Nat.le_of_ble_eq_true rfl)⟩ ⟨(Nat.le_of_ble_eq_true rfl), (Nat.le_of_ble_eq_true rfl)⟩ dX2_firstDated_18 (fun _ _ z => False.elim z) (fun v9 ws9 h21 => ?_))))
      obtain ⟨rfl, hw9⟩ := h21
      subst ws9
      dsimp only [mPush]
      refine r_aload_n hX dX2_firstDated_21 rfl rfl (r_get hX kf_X2_20 0 rfl rfl dX2_firstDated_22 (r_iload_n hX dX2_firstDated_25 rfl rfl (r_callS hX (z_X2_at_ok ad cs _ 3 _ 4 0 rfl (by decide) _ 1 (by first | with_reducible assumption | decide | omega) (by decide)) ks_X2_84 rfl rfl (Nat.le_of_ble_eq_true rfl) ⟨(Nat.le_of_ble_eq_true rfl), (Nat.le_of_ble_eq_true rfl)⟩ ⟨(Nat.le_of_ble_eq_true rfl), (Nat.le_of_ble_eq_true rfl)⟩ dX2_firstDated_26 (fun _ _ z => False.elim z) (fun v9 ws9 h22 => ?_))))
      obtain ⟨rfl, hw9⟩ := h22
      subst ws9
      dsimp only [mPush]
      refine r_callV hX (z_X1_orderTo _ _ (3 + 5) _ _ _ _ (zWd_loc (d := 3) (by decide)) (zrg hS (by decide)) (1 + 5) _ _ _ _ (zWd_loc (d := 1) (by decide)) (zrg hS (by decide))) kv_X2_179 (3 + 5) (zWd_loc (d := 3) (by decide)) rfl rfl rfl (Nat.le_of_ble_eq_true rfl) ⟨(Nat.le_of_ble_eq_true rfl), (Nat.le_of_ble_eq_true rfl)⟩ ⟨(Nat.le_of_ble_eq_true rfl), (Nat.le_of_ble_eq_true rfl)⟩ dX2_firstDated_29 (fun _ _ z => False.elim z) (fun v9 ws9 h23 => ?_)
      obtain ⟨rfl, hw9⟩ := h23
      subst ws9
      dsimp only [mPush]
      have hb23 := zTo_b (sse S 3) (sna S 3) (sow S 3) (sse S 1) (sna S 1) (sow S 1)
      refine r_if_geZ (tgt := 37) hX dX2_firstDated_32 (by decide) (by first | with_reducible assumption | decide | omega) (fun c24 => ?_) (fun c24 => ?_)
      · refine r_iincZ (z := 1) (y := 4) hX dX2_firstDated_37 rfl (by decide) rfl rfl (r_goto (tgt := 4) hX dX2_firstDated_40 (by decide) (r_iload_n hX dX2_firstDated_4 rfl rfl (r_aload_n hX dX2_firstDated_5 rfl rfl (r_get hX kf_X2_20 0 rfl rfl dX2_firstDated_6 (r_alen (v := iZ 4) hX 3 2 rfl rfl rfl dX2_firstDated_9 (r_icmp_geZ (tgt := 43) hX dX2_firstDated_10 (by decide) (by decide) (by decide) (fun _ => ?_) (fun q => absurd (by decide) q)))))))
        refine r_iload_n hX dX2_firstDated_43 rfl rfl (r_iret hX hE dX2_firstDated_44 (Nat.le_of_ble_eq_true rfl) (Nat.le_of_ble_eq_true rfl) ⟨zi ?_, rfl⟩)
        have e : zFD S = 1 := zFst_1 (x := true) (a := 1) (y := false) (b := 1) (z := false) (decide_eq_true (by omega)) rfl (decide_eq_false (by omega)) rfl (decide_eq_false (by omega)) rfl
        rw [e]
        rfl
      · refine r_iload_n hX dX2_firstDated_35 rfl rfl (r_istore_n hX dX2_firstDated_36 rfl (by decide) rfl (r_iincZ (z := 1) (y := 4) hX dX2_firstDated_37 rfl (by decide) rfl rfl (r_goto (tgt := 4) hX dX2_firstDated_40 (by decide) (r_iload_n hX dX2_firstDated_4 rfl rfl (r_aload_n hX dX2_firstDated_5 rfl rfl (r_get hX kf_X2_20 0 rfl rfl dX2_firstDated_6 (r_alen (v := iZ 4) hX 3 2 rfl rfl rfl dX2_firstDated_9 ?_)))))))
        refine r_icmp_geZ (tgt := 43) hX dX2_firstDated_10 (by decide) (by decide) (by decide) (fun _ => ?_) (fun q => absurd (by decide) q)
        refine r_iload_n hX dX2_firstDated_43 rfl rfl (r_iret hX hE dX2_firstDated_44 (Nat.le_of_ble_eq_true rfl) (Nat.le_of_ble_eq_true rfl) ⟨zi ?_, rfl⟩)
        have e : zFD S = 3 := zFst_1 (x := true) (a := 1) (y := false) (b := 1) (z := true) (decide_eq_true (by omega)) rfl (decide_eq_false (by omega)) rfl (decide_eq_true (by omega)) rfl
        rw [e]
        rfl
    · refine r_iload_n hX dX2_firstDated_35 rfl rfl (r_istore_n hX dX2_firstDated_36 rfl (by decide) rfl (r_iincZ (z := 1) (y := 3) hX dX2_firstDated_37 rfl (by decide) rfl rfl (r_goto (tgt := 4) hX dX2_firstDated_40 (by decide) (r_iload_n hX dX2_firstDated_4 rfl rfl (r_aload_n hX dX2_firstDated_5 rfl rfl (r_get hX kf_X2_20 0 rfl rfl dX2_firstDated_6 (r_alen (v := iZ 4) hX 3 2 rfl rfl rfl dX2_firstDated_9 ?_)))))))
      refine r_icmp_geZ (tgt := 43) hX dX2_firstDated_10 (by decide) (by decide) (by decide) (fun q => absurd q (by decide)) (fun _ => ?_)
      refine r_aload_n hX dX2_firstDated_13 rfl rfl (r_get hX kf_X2_20 0 rfl rfl dX2_firstDated_14 (r_iload_n hX dX2_firstDated_17 rfl rfl (r_callS hX (z_X2_at_ok ad cs _ 3 _ 4 0 rfl (by decide) _ 3 (by first | with_reducible assumption | decide | omega) (by decide)) ks_X2_84 rfl rfl (Nat.le_of_ble_eq_true rfl) ⟨(Nat.le_of_ble_eq_true rfl), (Nat.le_of_ble_eq_true rfl)⟩ ⟨(Nat.le_of_ble_eq_true rfl), (Nat.le_of_ble_eq_true rfl)⟩ dX2_firstDated_18 (fun _ _ z => False.elim z) (fun v9 ws9 h25 => ?_))))
      obtain ⟨rfl, hw9⟩ := h25
      subst ws9
      dsimp only [mPush]
      refine r_aload_n hX dX2_firstDated_21 rfl rfl (r_get hX kf_X2_20 0 rfl rfl dX2_firstDated_22 (r_iload_n hX dX2_firstDated_25 rfl rfl (r_callS hX (z_X2_at_ok ad cs _ 3 _ 4 0 rfl (by decide) _ 2 (by first | with_reducible assumption | decide | omega) (by decide)) ks_X2_84 rfl rfl (Nat.le_of_ble_eq_true rfl) ⟨(Nat.le_of_ble_eq_true rfl), (Nat.le_of_ble_eq_true rfl)⟩ ⟨(Nat.le_of_ble_eq_true rfl), (Nat.le_of_ble_eq_true rfl)⟩ dX2_firstDated_26 (fun _ _ z => False.elim z) (fun v9 ws9 h26 => ?_))))
      obtain ⟨rfl, hw9⟩ := h26
      subst ws9
      dsimp only [mPush]
      refine r_callV hX (z_X1_orderTo _ _ (3 + 5) _ _ _ _ (zWd_loc (d := 3) (by decide)) (zrg hS (by decide)) (2 + 5) _ _ _ _ (zWd_loc (d := 2) (by decide)) (zrg hS (by decide))) kv_X2_179 (3 + 5) (zWd_loc (d := 3) (by decide)) rfl rfl rfl (Nat.le_of_ble_eq_true rfl) ⟨(Nat.le_of_ble_eq_true rfl), (Nat.le_of_ble_eq_true rfl)⟩ ⟨(Nat.le_of_ble_eq_true rfl), (Nat.le_of_ble_eq_true rfl)⟩ dX2_firstDated_29 (fun _ _ z => False.elim z) (fun v9 ws9 h27 => ?_)
      obtain ⟨rfl, hw9⟩ := h27
      subst ws9
      dsimp only [mPush]
      have hb27 := zTo_b (sse S 3) (sna S 3) (sow S 3) (sse S 2) (sna S 2) (sow S 2)
      refine r_if_geZ (tgt := 37) hX dX2_firstDated_32 (by decide) (by first | with_reducible assumption | decide | omega) (fun c28 => ?_) (fun c28 => ?_)
      · refine r_iincZ (z := 1) (y := 4) hX dX2_firstDated_37 rfl (by decide) rfl rfl (r_goto (tgt := 4) hX dX2_firstDated_40 (by decide) (r_iload_n hX dX2_firstDated_4 rfl rfl (r_aload_n hX dX2_firstDated_5 rfl rfl (r_get hX kf_X2_20 0 rfl rfl dX2_firstDated_6 (r_alen (v := iZ 4) hX 3 2 rfl rfl rfl dX2_firstDated_9 (r_icmp_geZ (tgt := 43) hX dX2_firstDated_10 (by decide) (by decide) (by decide) (fun _ => ?_) (fun q => absurd (by decide) q)))))))
        refine r_iload_n hX dX2_firstDated_43 rfl rfl (r_iret hX hE dX2_firstDated_44 (Nat.le_of_ble_eq_true rfl) (Nat.le_of_ble_eq_true rfl) ⟨zi ?_, rfl⟩)
        have e : zFD S = 2 := zFst_1 (x := true) (a := 1) (y := true) (b := 2) (z := false) (decide_eq_true (by omega)) rfl (decide_eq_true (by omega)) rfl (decide_eq_false (by omega)) rfl
        rw [e]
        rfl
      · refine r_iload_n hX dX2_firstDated_35 rfl rfl (r_istore_n hX dX2_firstDated_36 rfl (by decide) rfl (r_iincZ (z := 1) (y := 4) hX dX2_firstDated_37 rfl (by decide) rfl rfl (r_goto (tgt := 4) hX dX2_firstDated_40 (by decide) (r_iload_n hX dX2_firstDated_4 rfl rfl (r_aload_n hX dX2_firstDated_5 rfl rfl (r_get hX kf_X2_20 0 rfl rfl dX2_firstDated_6 (r_alen (v := iZ 4) hX 3 2 rfl rfl rfl dX2_firstDated_9 ?_)))))))
        refine r_icmp_geZ (tgt := 43) hX dX2_firstDated_10 (by decide) (by decide) (by decide) (fun _ => ?_) (fun q => absurd (by decide) q)
        refine r_iload_n hX dX2_firstDated_43 rfl rfl (r_iret hX hE dX2_firstDated_44 (Nat.le_of_ble_eq_true rfl) (Nat.le_of_ble_eq_true rfl) ⟨zi ?_, rfl⟩)
        have e : zFD S = 3 := zFst_1 (x := true) (a := 1) (y := true) (b := 2) (z := true) (decide_eq_true (by omega)) rfl (decide_eq_true (by omega)) rfl (decide_eq_true (by omega)) rfl
        rw [e]
        rfl
set_option maxHeartbeats 4000000 in
set_option maxRecDepth 20000 in
theorem z_X2_house (ad : Nat → Nat) (cs : ClassId × ClassId × ClassId) (S : mS) (T : mT2) (rest : va_W) (hS : sWF S) (a0 : Int) (h0 : rJ a0)  : mCt (mTy cs) yX2_house cX2_house 2 (some .int) ⟨7, 1, 6, 104⟩ [.ref (ad 0), .int (iZ a0)] (mWd ad cs (mKof S T) rest) (fun v ws' => (0 ≤ a0 ∧ a0 ≤ 3) ∧ v = some (.int (zHo S a0)) ∧ ws' = (mWd ad cs (mKof S T) rest)) (fun E ws' => E = xA ∧ ws' = (mWd ad cs (mKof S T) rest) ∧ ¬ (0 ≤ a0 ∧ a0 ≤ 3)) := by
  refine mCt.of (by decide +kernel) (Nat.le_of_ble_eq_true rfl) (fun X hX hE => ?_)
  replace hX : mOK X RX2 cX2_house 2 ⟨7, 1, 6, 104⟩ [] (mTy cs) := hX
  refine r_iload_n hX dX2_house_0 rfl rfl (r_iconstZ hX dX2_house_1 (r_iconstZ hX dX2_house_2 (r_callS hX (z_X2_requireWithin _ _ _ _ _ (by first | with_reducible assumption | decide | omega) (by first | with_reducible assumption | decide | omega) (by first | with_reducible assumption | decide | omega)) ks_X2_40 rfl rfl (Nat.le_of_ble_eq_true rfl) ⟨(Nat.le_of_ble_eq_true rfl), (Nat.le_of_ble_eq_true rfl)⟩ ⟨(Nat.le_of_ble_eq_true rfl), (Nat.le_of_ble_eq_true rfl)⟩ dX2_house_3 (fun E ws9 z => r_out hX hE (Nat.le_of_ble_eq_true rfl) (Nat.le_of_ble_eq_true rfl) ⟨z.1, z.2.1, fun q => z.2.2 (by first | with_reducible assumption | decide | omega)⟩) (fun v9 ws9 h1 => ?_))))
  obtain ⟨hi2, rfl, hw9⟩ := h1
  subst ws9
  dsimp only [mPush]
  refine r_iload_n hX dX2_house_6 rfl rfl ?_
  by_cases s3 : a0 = 0
  · refine r_tableInZ (z := 0) (off := 25) (tgt := 32) hX dX2_house_7 s3 (by decide) (by decide) (by decide) rfl (by decide) (r_aload_n hX dX2_house_32 rfl rfl (r_get hX kf_X2_196 0 rfl rfl dX2_house_33 (r_iret hX hE dX2_house_36 (Nat.le_of_ble_eq_true rfl) (Nat.le_of_ble_eq_true rfl) ⟨by omega, ?_, rfl⟩)))
    unfold zHo
    rw [if_pos (by first | (rw [s3]; decide) | omega)]
    try rfl
  by_cases s4 : a0 = 1
  · refine r_tableInZ (z := 1) (off := 30) (tgt := 37) hX dX2_house_7 s4 (by decide) (by decide) (by decide) rfl (by decide) (r_aload_n hX dX2_house_37 rfl rfl (r_get hX kf_X2_199 0 rfl rfl dX2_house_38 (r_iret hX hE dX2_house_41 (Nat.le_of_ble_eq_true rfl) (Nat.le_of_ble_eq_true rfl) ⟨by omega, ?_, rfl⟩)))
    unfold zHo
    rw [if_neg (by first | (rw [s4]; decide) | omega)]
    rw [if_pos (by first | (rw [s4]; decide) | omega)]
    try rfl
  by_cases s5 : a0 = 2
  · refine r_tableInZ (z := 2) (off := 35) (tgt := 42) hX dX2_house_7 s5 (by decide) (by decide) (by decide) rfl (by decide) (r_aload_n hX dX2_house_42 rfl rfl (r_callV hX (z_X2_firstDated ad cs S T rest hS) kv_X2_202 0 rfl rfl rfl rfl (Nat.le_of_ble_eq_true rfl) ⟨(Nat.le_of_ble_eq_true rfl), (Nat.le_of_ble_eq_true rfl)⟩ ⟨(Nat.le_of_ble_eq_true rfl), (Nat.le_of_ble_eq_true rfl)⟩ dX2_house_43 (fun _ _ z => False.elim z) (fun v9 ws9 h6 => ?_)))
    obtain ⟨rfl, hw9⟩ := h6
    subst ws9
    dsimp only [mPush]
    refine r_iret hX hE dX2_house_46 (Nat.le_of_ble_eq_true rfl) (Nat.le_of_ble_eq_true rfl) ⟨by omega, ?_, rfl⟩
    unfold zHo
    rw [if_neg (by first | (rw [s5]; decide) | omega)]
    rw [if_neg (by first | (rw [s5]; decide) | omega)]
    rw [if_pos (by first | (rw [s5]; decide) | omega)]
    try rfl
  refine r_tableOutZ (tgt := 47) hX dX2_house_7 (by first | with_reducible assumption | decide | omega) (by first | with_reducible assumption | decide | omega) (by decide) (r_aload_n hX dX2_house_47 rfl rfl (r_callV hX (z_X2_firstMoment ad cs S T rest hS) kv_X2_205 0 rfl rfl rfl rfl (Nat.le_of_ble_eq_true rfl) ⟨(Nat.le_of_ble_eq_true rfl), (Nat.le_of_ble_eq_true rfl)⟩ ⟨(Nat.le_of_ble_eq_true rfl), (Nat.le_of_ble_eq_true rfl)⟩ dX2_house_48 (fun _ _ z => False.elim z) (fun v9 ws9 h7 => ?_)))
  obtain ⟨rfl, hw9⟩ := h7
  subst ws9
  dsimp only [mPush]
  refine r_iret hX hE dX2_house_51 (Nat.le_of_ble_eq_true rfl) (Nat.le_of_ble_eq_true rfl) ⟨by omega, ?_, rfl⟩
  unfold zHo
  rw [if_neg (by omega)]
  rw [if_neg (by omega)]
  rw [if_neg (by omega)]
  try rfl
end
