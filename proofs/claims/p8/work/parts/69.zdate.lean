/-! The class, exact (rows by a program of this repository). -/
set_option maxHeartbeats 4000000 in
set_option maxRecDepth 20000 in
theorem z_X2_date (ad : Nat → Nat) (cs : ClassId × ClassId × ClassId) (S : mS) (T : mT2) (rest : va_W) (hS : sWF S) (a0 : Int) (h0 : rJ a0) (a1 : Int) (h1 : rJ a1) (a2 : Int) (h2 : rJ a2) (a3 : Int) (h3 : rJ a3) (a4 : Int) (h4 : rJ a4) (a5 : Int) (h5 : rJ a5)  : mCt (mTy cs) yX2_date cX2_date 11 (some .int) ⟨8, 5, 30, 124⟩ [.ref (ad 0), .int (iZ a0), .int (iZ a1), .int (iZ a2), .int (iZ a3), .int (iZ a4), .int (iZ a5)] (mWd ad cs (mKof S T) rest) (fun v ws' => (((0 ≤ a0 ∧ a0 < 4) ∧ (0 ≤ a5 ∧ a5 < 4)) ∧ ((0 ≤ a2 ∧ a2 ≤ 9999) ∧ (0 ≤ a3 ∧ a3 ≤ 86399) ∧ (0 ≤ a4 ∧ a4 ≤ 999999999))) ∧ v = some (.int (iZ (oDate S a0.toNat a1 a2 a3 a4 (sof S a5.toNat)).1)) ∧ ws' = mWd ad cs (mKof (oDate S a0.toNat a1 a2 a3 a4 (sof S a5.toNat)).2 T) rest) (fun E ws' => ws' = mWd ad cs (mKof S T) rest ∧ ((E = xI ∧ ¬ ((0 ≤ a0 ∧ a0 < 4) ∧ (0 ≤ a5 ∧ a5 < 4))) ∨ (E = xA ∧ ((0 ≤ a0 ∧ a0 < 4) ∧ (0 ≤ a5 ∧ a5 < 4)) ∧ ¬ ((0 ≤ a2 ∧ a2 ≤ 9999) ∧ (0 ≤ a3 ∧ a3 ≤ 86399) ∧ (0 ≤ a4 ∧ a4 ≤ 999999999))))) := by
  refine mCt.of (by decide +kernel) (Nat.le_of_ble_eq_true rfl) (fun X hX hE => ?_)
  replace hX : mOK X RX2 cX2_date 11 ⟨8, 5, 30, 124⟩ [] (mTy cs) := hX
  refine r_aload_n hX dX2_date_0 rfl rfl ?_
  refine r_get hX kf_X2_20 0 rfl rfl dX2_date_1 ?_
  refine r_iload_n hX dX2_date_4 rfl rfl ?_
  refine r_callS hX (z_X2_at ad cs _ 3 _ 4 0 rfl (by decide) _ (by omega)) ks_X2_84 rfl rfl (Nat.le_of_ble_eq_true rfl) ⟨(Nat.le_of_ble_eq_true rfl), (Nat.le_of_ble_eq_true rfl)⟩ ⟨(Nat.le_of_ble_eq_true rfl), (Nat.le_of_ble_eq_true rfl)⟩ dX2_date_5 (fun E ws9 z => r_out hX hE (Nat.le_of_ble_eq_true rfl) (Nat.le_of_ble_eq_true rfl) ⟨z.2.1, Or.inl ⟨z.1, fun q => z.2.2 (by omega)⟩⟩) (fun v9 ws9 h1 => ?_)
  obtain ⟨hi2, rfl, hw9⟩ := h1
  subst ws9
  dsimp only [mPush]
  refine r_astore hX dX2_date_8 (by decide) rfl ?_
  refine r_aload_n hX dX2_date_10 rfl rfl ?_
  refine r_iload hX dX2_date_11 rfl ?_
  refine r_callV hX (z_X2_seconds ad cs S T rest hS _ (by omega)) kv_X2_64 0 rfl rfl rfl rfl (Nat.le_of_ble_eq_true rfl) ⟨(Nat.le_of_ble_eq_true rfl), (Nat.le_of_ble_eq_true rfl)⟩ ⟨(Nat.le_of_ble_eq_true rfl), (Nat.le_of_ble_eq_true rfl)⟩ dX2_date_13 (fun E ws9 z => r_out hX hE (Nat.le_of_ble_eq_true rfl) (Nat.le_of_ble_eq_true rfl) ⟨z.2.1, Or.inl ⟨z.1, fun q => z.2.2 (by omega)⟩⟩) (fun v9 ws9 h3 => ?_)
  obtain ⟨hi4, rfl, hw9⟩ := h3
  subst ws9
  dsimp only [mPush]
  have hof4 := hS.1 a5.toNat (by omega)
  refine r_istore hX dX2_date_16 (by decide) rfl ?_
  refine r_iload_n hX dX2_date_18 rfl rfl ?_
  refine r_iconstZ hX dX2_date_19 ?_
  refine r_sipushZ hX dX2_date_20 (by decide) ?_
  refine r_callS hX (z_X2_requireWithin _ _ _ _ _ (by omega) (by omega) (by omega)) ks_X2_40 rfl rfl (Nat.le_of_ble_eq_true rfl) ⟨(Nat.le_of_ble_eq_true rfl), (Nat.le_of_ble_eq_true rfl)⟩ ⟨(Nat.le_of_ble_eq_true rfl), (Nat.le_of_ble_eq_true rfl)⟩ dX2_date_23 (fun E ws9 z => r_out hX hE (Nat.le_of_ble_eq_true rfl) (Nat.le_of_ble_eq_true rfl) ⟨z.2.1, Or.inr ⟨z.1, by omega, fun q => z.2.2 (by omega)⟩⟩) (fun v9 ws9 h5 => ?_)
  obtain ⟨hi6, rfl, hw9⟩ := h5
  subst ws9
  dsimp only [mPush]
  refine r_iload hX dX2_date_26 rfl ?_
  refine r_iconstZ hX dX2_date_28 ?_
  refine r_ldcZ (z := 86399) hX kc_X2_114 (by decide) dX2_date_29 ?_
  refine r_callS hX (z_X2_requireWithin _ _ _ _ _ (by omega) (by omega) (by omega)) ks_X2_40 rfl rfl (Nat.le_of_ble_eq_true rfl) ⟨(Nat.le_of_ble_eq_true rfl), (Nat.le_of_ble_eq_true rfl)⟩ ⟨(Nat.le_of_ble_eq_true rfl), (Nat.le_of_ble_eq_true rfl)⟩ dX2_date_31 (fun E ws9 z => r_out hX hE (Nat.le_of_ble_eq_true rfl) (Nat.le_of_ble_eq_true rfl) ⟨z.2.1, Or.inr ⟨z.1, by omega, fun q => z.2.2 (by omega)⟩⟩) (fun v9 ws9 h7 => ?_)
  obtain ⟨hi8, rfl, hw9⟩ := h7
  subst ws9
  dsimp only [mPush]
  refine r_iload hX dX2_date_34 rfl ?_
  refine r_iconstZ hX dX2_date_36 ?_
  refine r_ldcZ (z := 999999999) hX kc_X2_115 (by decide) dX2_date_37 ?_
  refine r_callS hX (z_X2_requireWithin _ _ _ _ _ (by omega) (by omega) (by omega)) ks_X2_40 rfl rfl (Nat.le_of_ble_eq_true rfl) ⟨(Nat.le_of_ble_eq_true rfl), (Nat.le_of_ble_eq_true rfl)⟩ ⟨(Nat.le_of_ble_eq_true rfl), (Nat.le_of_ble_eq_true rfl)⟩ dX2_date_39 (fun E ws9 z => r_out hX hE (Nat.le_of_ble_eq_true rfl) (Nat.le_of_ble_eq_true rfl) ⟨z.2.1, Or.inr ⟨z.1, by omega, fun q => z.2.2 (by omega)⟩⟩) (fun v9 ws9 h9 => ?_)
  obtain ⟨hi10, rfl, hw9⟩ := h9
  subst ws9
  dsimp only [mPush]
  refine r_iload_n hX dX2_date_42 rfl rfl ?_
  refine r_bipushZ hX dX2_date_43 (by decide) ?_
  refine r_idivZ hX dX2_date_45 (by omega) (by decide) ?_
  refine r_istore hX dX2_date_46 (by decide) rfl ?_
  refine r_iload_n hX dX2_date_48 rfl rfl ?_
  refine r_bipushZ hX dX2_date_49 (by decide) ?_
  refine r_iremZ hX dX2_date_51 (by omega) (by decide) ?_
  refine r_istore hX dX2_date_52 (by decide) rfl ?_
  refine r_iload_n hX dX2_date_54 rfl rfl ?_
  refine r_i2lZ hX dX2_date_55 (by omega) ?_
  refine r_ldc2Z (z := 1910) hX kc_X2_116 (by decide) dX2_date_56 ?_
  refine r_ldc2Z (z := 2030) hX kc_X2_118 (by decide) dX2_date_59 ?_
  refine r_callS hX (z_X2_isWithin _ _ _ _ _ (by omega) (by omega) (by omega)) ks_X2_48 rfl rfl (Nat.le_of_ble_eq_true rfl) ⟨(Nat.le_of_ble_eq_true rfl), (Nat.le_of_ble_eq_true rfl)⟩ ⟨(Nat.le_of_ble_eq_true rfl), (Nat.le_of_ble_eq_true rfl)⟩ dX2_date_62 (fun _ _ z => False.elim z) (fun v9 ws9 h11 => ?_)
  obtain ⟨rfl, hw9⟩ := h11
  subst ws9
  dsimp only [mPush]
  refine r_if_eqB (tgt := 79) hX dX2_date_65 (by decide) (fun c12 => ?_) (fun c12 => ?_)
  · have c12 := of_decide_eq_false c12
    refine r_aload_n hX dX2_date_79 rfl rfl ?_
    refine r_callV hX (z_X2_refused ad cs S T rest) kv_X2_56 0 rfl rfl rfl rfl (Nat.le_of_ble_eq_true rfl) ⟨(Nat.le_of_ble_eq_true rfl), (Nat.le_of_ble_eq_true rfl)⟩ ⟨(Nat.le_of_ble_eq_true rfl), (Nat.le_of_ble_eq_true rfl)⟩ dX2_date_80 (fun _ _ z => False.elim z) (fun v9 ws9 h13 => ?_)
    obtain ⟨rfl, hw9⟩ := h13
    subst ws9
    dsimp only [mPush]
    refine r_iret hX hE dX2_date_83 (Nat.le_of_ble_eq_true rfl) (Nat.le_of_ble_eq_true rfl) ⟨by omega, ?_⟩
    unfold oDate
    rw [if_neg (by omega)]
    exact ⟨rfl, rfl⟩
  · have c12 := of_decide_eq_true c12
    refine r_iload_n hX dX2_date_68 rfl rfl ?_
    refine r_iload hX dX2_date_69 rfl ?_
    refine r_iload hX dX2_date_71 rfl ?_
    refine r_callS hX (z_X0_isDay _ _ _ (a1).toNat (by omega) (by omega) _ (by omega) _ (by omega)) ks_X2_120 rfl rfl (Nat.le_of_ble_eq_true rfl) ⟨(Nat.le_of_ble_eq_true rfl), (Nat.le_of_ble_eq_true rfl)⟩ ⟨(Nat.le_of_ble_eq_true rfl), (Nat.le_of_ble_eq_true rfl)⟩ dX2_date_73 (fun _ _ z => False.elim z) (fun v9 ws9 h14 => ?_)
    obtain ⟨rfl, hw9⟩ := h14
    subst ws9
    dsimp only [mPush]
    refine r_if_neB (tgt := 84) hX dX2_date_76 (by decide) (fun c15 => ?_) (fun c15 => ?_)
    · have c15 := of_decide_eq_true c15
      refine r_aload_n hX dX2_date_84 rfl rfl ?_
      refine r_aload hX dX2_date_85 rfl ?_
      refine r_iload_n hX dX2_date_87 rfl rfl ?_
      refine r_iload hX dX2_date_88 rfl ?_
      refine r_iload hX dX2_date_90 rfl ?_
      have hfo := FO_b (y := a1.toNat) (by omega)
      have hdb := DB_b (y := a1.toNat) (m := (a2 / 100).toNat) (by omega)
      have hdm := dm_b a1.toNat (a2 / 100).toNat
      refine r_callS hX (z_X0_dayOf _ _ _ (a1).toNat (by omega) (by omega) _ (a2 / 100).toNat (by omega) (by omega) _) ks_X2_126 rfl rfl (Nat.le_of_ble_eq_true rfl) ⟨(Nat.le_of_ble_eq_true rfl), (Nat.le_of_ble_eq_true rfl)⟩ ⟨(Nat.le_of_ble_eq_true rfl), (Nat.le_of_ble_eq_true rfl)⟩ dX2_date_92 (fun _ _ z => False.elim z) (fun v9 ws9 h16 => ?_)
      obtain ⟨rfl, hw9⟩ := h16
      subst ws9
      dsimp only [mPush]
      refine r_i2lZ hX dX2_date_95 (by omega) ?_
      refine r_ldc2Z (z := 86400) hX kc_X2_130 (by decide) dX2_date_96 ?_
      refine r_lmulZ hX dX2_date_99 ?_
      refine r_iload hX dX2_date_100 rfl ?_
      refine r_i2lZ hX dX2_date_102 (by omega) ?_
      refine r_laddZ hX dX2_date_103 ?_
      refine r_iload hX dX2_date_104 rfl ?_
      refine r_iload hX dX2_date_106 rfl ?_
      refine r_callV hX (z_X2_putLocal ad cs S T rest hS a0.toNat (by omega) _ _ _ (by omega) (by omega) (by omega)) kv_X2_132 0 rfl rfl rfl rfl (Nat.le_of_ble_eq_true rfl) ⟨(Nat.le_of_ble_eq_true rfl), (Nat.le_of_ble_eq_true rfl)⟩ ⟨(Nat.le_of_ble_eq_true rfl), (Nat.le_of_ble_eq_true rfl)⟩ dX2_date_108 (fun _ _ z => False.elim z) (fun v9 ws9 h17 => ?_)
      obtain ⟨rfl, hw9⟩ := h17
      subst ws9
      dsimp only [mPush]
      refine r_iret hX hE dX2_date_111 (Nat.le_of_ble_eq_true rfl) (Nat.le_of_ble_eq_true rfl) ⟨by omega, ?_⟩
      unfold oDate
      rw [if_pos (by omega)]
      exact ⟨rfl, rfl⟩
    · have c15 := of_decide_eq_false c15
      refine r_aload_n hX dX2_date_79 rfl rfl ?_
      refine r_callV hX (z_X2_refused ad cs S T rest) kv_X2_56 0 rfl rfl rfl rfl (Nat.le_of_ble_eq_true rfl) ⟨(Nat.le_of_ble_eq_true rfl), (Nat.le_of_ble_eq_true rfl)⟩ ⟨(Nat.le_of_ble_eq_true rfl), (Nat.le_of_ble_eq_true rfl)⟩ dX2_date_80 (fun _ _ z => False.elim z) (fun v9 ws9 h18 => ?_)
      obtain ⟨rfl, hw9⟩ := h18
      subst ws9
      dsimp only [mPush]
      refine r_iret hX hE dX2_date_83 (Nat.le_of_ble_eq_true rfl) (Nat.le_of_ble_eq_true rfl) ⟨by omega, ?_⟩
      unfold oDate
      rw [if_neg (by omega)]
      exact ⟨rfl, rfl⟩
set_option maxHeartbeats 4000000 in
set_option maxRecDepth 20000 in
theorem z_X2_dateOf (ad : Nat → Nat) (cs : ClassId × ClassId × ClassId) (S : mS) (T : mT2) (rest : va_W) (hS : sWF S) (a0 : Int) (h0 : rJ a0) (a1 : Int) (h1 : rJ a1) (a2 : Int) (h2 : rJ a2)  : mCt (mTy cs) yX2_dateOf cX2_dateOf 8 (some .int) ⟨8, 3, 18, 124⟩ [.ref (ad 0), .int (iZ a0), .int (iZ a1), .int (iZ a2)] (mWd ad cs (mKof S T) rest) (fun v ws' => (((0 ≤ a0 ∧ a0 < 4) ∧ (0 ≤ a1 ∧ a1 < 4) ∧ (0 ≤ a2 ∧ a2 < 4)) ∧ (0 ≤ (0 : Int))) ∧ v = some (.int (iZ (oLoc S a0.toNat (snu S a1.toNat / 1000000000 + sof S a2.toNat) (snu S a1.toNat % 1000000000) (sof S a2.toNat)).1)) ∧ ws' = mWd ad cs (mKof (oLoc S a0.toNat (snu S a1.toNat / 1000000000 + sof S a2.toNat) (snu S a1.toNat % 1000000000) (sof S a2.toNat)).2 T) rest) (fun E ws' => ws' = mWd ad cs (mKof S T) rest ∧ ((E = xI ∧ ¬ ((0 ≤ a0 ∧ a0 < 4) ∧ (0 ≤ a1 ∧ a1 < 4) ∧ (0 ≤ a2 ∧ a2 < 4))) ∨ (E = xA ∧ ((0 ≤ a0 ∧ a0 < 4) ∧ (0 ≤ a1 ∧ a1 < 4) ∧ (0 ≤ a2 ∧ a2 < 4)) ∧ ¬ (0 ≤ (0 : Int))))) := by
  refine mCt.of (by decide +kernel) (Nat.le_of_ble_eq_true rfl) (fun X hX hE => ?_)
  replace hX : mOK X RX2 cX2_dateOf 8 ⟨8, 3, 18, 124⟩ [] (mTy cs) := hX
  refine r_aload_n hX dX2_dateOf_0 rfl rfl ?_
  refine r_get hX kf_X2_20 0 rfl rfl dX2_dateOf_1 ?_
  refine r_iload_n hX dX2_dateOf_4 rfl rfl ?_
  refine r_callS hX (z_X2_at ad cs _ 3 _ 4 0 rfl (by decide) _ (by omega)) ks_X2_84 rfl rfl (Nat.le_of_ble_eq_true rfl) ⟨(Nat.le_of_ble_eq_true rfl), (Nat.le_of_ble_eq_true rfl)⟩ ⟨(Nat.le_of_ble_eq_true rfl), (Nat.le_of_ble_eq_true rfl)⟩ dX2_dateOf_5 (fun E ws9 z => r_out hX hE (Nat.le_of_ble_eq_true rfl) (Nat.le_of_ble_eq_true rfl) ⟨z.2.1, Or.inl ⟨z.1, fun q => z.2.2 (by omega)⟩⟩) (fun v9 ws9 h1 => ?_)
  obtain ⟨hi2, rfl, hw9⟩ := h1
  subst ws9
  dsimp only [mPush]
  refine r_astore hX dX2_dateOf_8 (by decide) rfl ?_
  refine r_iload_n hX dX2_dateOf_10 rfl rfl ?_
  refine r_aload_n hX dX2_dateOf_11 rfl rfl ?_
  refine r_get hX kf_X2_13 0 rfl rfl dX2_dateOf_12 ?_
  refine r_alen (v := iZ 4) hX 2 1 rfl rfl rfl dX2_dateOf_15 ?_
  refine r_callS hX (z_X2_requireOne _ _ _ 4 (by omega) (by decide)) ks_X2_34 rfl rfl (Nat.le_of_ble_eq_true rfl) ⟨(Nat.le_of_ble_eq_true rfl), (Nat.le_of_ble_eq_true rfl)⟩ ⟨(Nat.le_of_ble_eq_true rfl), (Nat.le_of_ble_eq_true rfl)⟩ dX2_dateOf_16 (fun E ws9 z => r_out hX hE (Nat.le_of_ble_eq_true rfl) (Nat.le_of_ble_eq_true rfl) ⟨z.2.1, Or.inl ⟨z.1, fun q => z.2.2 (by omega)⟩⟩) (fun v9 ws9 h3 => ?_)
  obtain ⟨hi4, rfl, hw9⟩ := h3
  subst ws9
  dsimp only [mPush]
  refine r_aload_n hX dX2_dateOf_19 rfl rfl ?_
  refine r_iload_n hX dX2_dateOf_20 rfl rfl ?_
  refine r_callV hX (z_X2_seconds ad cs S T rest hS _ (by omega)) kv_X2_64 0 rfl rfl rfl rfl (Nat.le_of_ble_eq_true rfl) ⟨(Nat.le_of_ble_eq_true rfl), (Nat.le_of_ble_eq_true rfl)⟩ ⟨(Nat.le_of_ble_eq_true rfl), (Nat.le_of_ble_eq_true rfl)⟩ dX2_dateOf_21 (fun E ws9 z => r_out hX hE (Nat.le_of_ble_eq_true rfl) (Nat.le_of_ble_eq_true rfl) ⟨z.2.1, Or.inl ⟨z.1, fun q => z.2.2 (by omega)⟩⟩) (fun v9 ws9 h5 => ?_)
  obtain ⟨hi6, rfl, hw9⟩ := h5
  subst ws9
  dsimp only [mPush]
  have hof6 := hS.1 a2.toNat (by omega)
  refine r_istore hX dX2_dateOf_24 (by decide) rfl ?_
  refine r_aload_n hX dX2_dateOf_26 rfl rfl ?_
  refine r_get hX kf_X2_13 0 rfl rfl dX2_dateOf_27 ?_
  refine r_iload_n hX dX2_dateOf_30 rfl rfl ?_
  have hnu := hS.2.1 a1.toNat (by omega)
  refine r_laldZ hX 2 1 rfl rfl (a1).toNat (by omega) (by omega) (by decide) dX2_dateOf_31 ?_
  refine r_lstore hX dX2_dateOf_32 (by decide) rfl ?_
  refine r_aload_n hX dX2_dateOf_34 rfl rfl ?_
  refine r_aload hX dX2_dateOf_35 rfl ?_
  refine r_lload hX dX2_dateOf_37 rfl ?_
  refine r_callS hX (z_X2_secondOf _ _ _ (by omega)) ks_X2_96 rfl rfl (Nat.le_of_ble_eq_true rfl) ⟨(Nat.le_of_ble_eq_true rfl), (Nat.le_of_ble_eq_true rfl)⟩ ⟨(Nat.le_of_ble_eq_true rfl), (Nat.le_of_ble_eq_true rfl)⟩ dX2_dateOf_39 (fun _ _ z => False.elim z) (fun v9 ws9 h7 => ?_)
  obtain ⟨rfl, hw9⟩ := h7
  subst ws9
  dsimp only [mPush]
  refine r_iload hX dX2_dateOf_42 rfl ?_
  refine r_i2lZ hX dX2_dateOf_44 (by omega) ?_
  refine r_laddZ hX dX2_dateOf_45 ?_
  refine r_lload hX dX2_dateOf_46 rfl ?_
  refine r_callS hX (z_X2_nanoOf _ _ _ (by omega)) ks_X2_92 rfl rfl (Nat.le_of_ble_eq_true rfl) ⟨(Nat.le_of_ble_eq_true rfl), (Nat.le_of_ble_eq_true rfl)⟩ ⟨(Nat.le_of_ble_eq_true rfl), (Nat.le_of_ble_eq_true rfl)⟩ dX2_dateOf_48 (fun _ _ z => False.elim z) (fun v9 ws9 h8 => ?_)
  obtain ⟨rfl, hw9⟩ := h8
  subst ws9
  dsimp only [mPush]
  refine r_iload hX dX2_dateOf_51 rfl ?_
  refine r_callV hX (z_X2_putLocal ad cs S T rest hS a0.toNat (by omega) _ _ _ (by omega) (by omega) (by omega)) kv_X2_132 0 rfl rfl rfl rfl (Nat.le_of_ble_eq_true rfl) ⟨(Nat.le_of_ble_eq_true rfl), (Nat.le_of_ble_eq_true rfl)⟩ ⟨(Nat.le_of_ble_eq_true rfl), (Nat.le_of_ble_eq_true rfl)⟩ dX2_dateOf_53 (fun _ _ z => False.elim z) (fun v9 ws9 h9 => ?_)
  obtain ⟨rfl, hw9⟩ := h9
  subst ws9
  dsimp only [mPush]
  refine r_iret hX hE dX2_dateOf_56 (Nat.le_of_ble_eq_true rfl) (Nat.le_of_ble_eq_true rfl) ⟨by omega, ?_⟩
  exact ⟨rfl, rfl⟩
set_option maxHeartbeats 4000000 in
set_option maxRecDepth 20000 in
theorem z_X2_moveDate (ad : Nat → Nat) (cs : ClassId × ClassId × ClassId) (S : mS) (T : mT2) (rest : va_W) (hS : sWF S) (a0 : Int) (h0 : rJ a0) (a1 : Int) (h1 : rJ a1) (a2 : Int) (h2 : rJ a2) (b3 : Bool)  : mCt (mTy cs) yX2_moveDate cX2_moveDate 8 (some .int) ⟨7, 2, 12, 120⟩ [.ref (ad 0), .int (iZ a0), .int (iZ a1), .int (iZ a2), .int (b2i b3)] (mWd ad cs (mKof S T) rest) (fun v ws' => (((0 ≤ a0 ∧ a0 < 4)) ∧ (0 ≤ a1 ∧ a1 ≤ 7)) ∧ v = some (.int (iZ (oMv S a0.toNat a1 (zSg a2 b3)).1)) ∧ ws' = mWd ad cs (mKof (oMv S a0.toNat a1 (zSg a2 b3)).2 T) rest) (fun E ws' => ws' = mWd ad cs (mKof S T) rest ∧ ((E = xI ∧ ¬ ((0 ≤ a0 ∧ a0 < 4))) ∨ (E = xA ∧ ((0 ≤ a0 ∧ a0 < 4)) ∧ ¬ (0 ≤ a1 ∧ a1 ≤ 7)))) := by
  refine mCt.of (by decide +kernel) (Nat.le_of_ble_eq_true rfl) (fun X hX hE => ?_)
  replace hX : mOK X RX2 cX2_moveDate 8 ⟨7, 2, 12, 120⟩ [] (mTy cs) := hX
  refine r_aload_n hX dX2_moveDate_0 rfl rfl ?_
  refine r_get hX kf_X2_20 0 rfl rfl dX2_moveDate_1 ?_
  refine r_iload_n hX dX2_moveDate_4 rfl rfl ?_
  refine r_callS hX (z_X2_at ad cs _ 3 _ 4 0 rfl (by decide) _ (by omega)) ks_X2_84 rfl rfl (Nat.le_of_ble_eq_true rfl) ⟨(Nat.le_of_ble_eq_true rfl), (Nat.le_of_ble_eq_true rfl)⟩ ⟨(Nat.le_of_ble_eq_true rfl), (Nat.le_of_ble_eq_true rfl)⟩ dX2_moveDate_5 (fun E ws9 z => r_out hX hE (Nat.le_of_ble_eq_true rfl) (Nat.le_of_ble_eq_true rfl) ⟨z.2.1, Or.inl ⟨z.1, fun q => z.2.2 (by omega)⟩⟩) (fun v9 ws9 h1 => ?_)
  obtain ⟨hi2, rfl, hw9⟩ := h1
  subst ws9
  dsimp only [mPush]
  refine r_astore hX dX2_moveDate_8 (by decide) rfl ?_
  refine r_iload_n hX dX2_moveDate_10 rfl rfl ?_
  refine r_iconstZ hX dX2_moveDate_11 ?_
  refine r_bipushZ hX dX2_moveDate_12 (by decide) ?_
  refine r_callS hX (z_X2_requireWithin _ _ _ _ _ (by omega) (by omega) (by omega)) ks_X2_40 rfl rfl (Nat.le_of_ble_eq_true rfl) ⟨(Nat.le_of_ble_eq_true rfl), (Nat.le_of_ble_eq_true rfl)⟩ ⟨(Nat.le_of_ble_eq_true rfl), (Nat.le_of_ble_eq_true rfl)⟩ dX2_moveDate_14 (fun E ws9 z => r_out hX hE (Nat.le_of_ble_eq_true rfl) (Nat.le_of_ble_eq_true rfl) ⟨z.2.1, Or.inr ⟨z.1, by omega, fun q => z.2.2 (by omega)⟩⟩) (fun v9 ws9 h3 => ?_)
  obtain ⟨hi4, rfl, hw9⟩ := h3
  subst ws9
  dsimp only [mPush]
  refine r_iload_n hX dX2_moveDate_17 rfl rfl ?_
  refine r_iload hX dX2_moveDate_18 rfl ?_
  have hr := zrg hS (d := a0.toNat) (by omega)
  have hse := hS.2.2.2.1 a0.toNat (by omega)
  have hsd : -21915 ≤ sse S a0.toNat / 86400 ∧ sse S a0.toNat / 86400 ≤ 22279 := by omega
  have hyr := YR_spec hsd.1 hsd.2
  have hmo := MO_b (sse S a0.toNat / 86400)
  refine r_callS hX (z_X2_signed _ _ _ _ (by omega)) ks_X2_80 rfl rfl (Nat.le_of_ble_eq_true rfl) ⟨(Nat.le_of_ble_eq_true rfl), (Nat.le_of_ble_eq_true rfl)⟩ ⟨(Nat.le_of_ble_eq_true rfl), (Nat.le_of_ble_eq_true rfl)⟩ dX2_moveDate_20 (fun _ _ z => False.elim z) (fun v9 ws9 h5 => ?_)
  obtain ⟨rfl, hw9⟩ := h5
  subst ws9
  dsimp only [mPush]
  have hsg5 := zSg_b (a := a2) (b := b3) (by omega)
  refine r_lstore hX dX2_moveDate_23 (by decide) rfl ?_
  refine r_iload_n hX dX2_moveDate_25 rfl rfl ?_
  refine r_if_neZ (tgt := 48) hX dX2_moveDate_26 (by decide) (by omega) (fun c6 => ?_) (fun c6 => ?_)
  · refine r_iload_n hX dX2_moveDate_48 rfl rfl ?_
    refine r_iconstZ hX dX2_moveDate_49 ?_
    refine r_icmp_neZ (tgt := 68) hX dX2_moveDate_50 (by decide) (by omega) (by decide) (fun c7 => ?_) (fun c7 => ?_)
    · refine r_aload_n hX dX2_moveDate_68 rfl rfl ?_
      refine r_aload hX dX2_moveDate_69 rfl ?_
      refine r_aload hX dX2_moveDate_71 rfl ?_
      refine r_getN hX kg_X2_146 (a0.toNat + 5) (zWd_loc (d := a0.toNat) (by omega)) rfl dX2_moveDate_73 ?_
      refine r_aload hX dX2_moveDate_76 rfl ?_
      refine r_iload_n hX dX2_moveDate_78 rfl rfl ?_
      refine r_lload hX dX2_moveDate_79 rfl ?_
      refine r_callS hX (z_X2_secondsOn _ _ (a0.toNat + 5) _ _ _ _ (zWd_loc (d := a0.toNat) (by omega)) (zrg hS (by omega)) _ (by omega) _ (by omega)) ks_X2_150 rfl rfl (Nat.le_of_ble_eq_true rfl) ⟨(Nat.le_of_ble_eq_true rfl), (Nat.le_of_ble_eq_true rfl)⟩ ⟨(Nat.le_of_ble_eq_true rfl), (Nat.le_of_ble_eq_true rfl)⟩ dX2_moveDate_81 (fun _ _ z => False.elim z) (fun v9 ws9 h8 => ?_)
      obtain ⟨rfl, hw9⟩ := h8
      subst ws9
      dsimp only [mPush]
      have hsn8 := zSn_b (n := (sna S a0.toNat)) (u := a1) (b := (zSg a2 b3)) (by omega) (by omega)
      refine r_laddZ hX dX2_moveDate_84 ?_
      refine r_aload hX dX2_moveDate_85 rfl ?_
      refine r_iload_n hX dX2_moveDate_87 rfl rfl ?_
      refine r_lload hX dX2_moveDate_88 rfl ?_
      refine r_callS hX (z_X2_nanoOn _ _ (a0.toNat + 5) _ _ _ _ (zWd_loc (d := a0.toNat) (by omega)) (zrg hS (by omega)) _ (by omega) _ (by omega)) ks_X2_154 rfl rfl (Nat.le_of_ble_eq_true rfl) ⟨(Nat.le_of_ble_eq_true rfl), (Nat.le_of_ble_eq_true rfl)⟩ ⟨(Nat.le_of_ble_eq_true rfl), (Nat.le_of_ble_eq_true rfl)⟩ dX2_moveDate_90 (fun _ _ z => False.elim z) (fun v9 ws9 h9 => ?_)
      obtain ⟨rfl, hw9⟩ := h9
      subst ws9
      dsimp only [mPush]
      have hnn9 := zNn_b (n := (sna S a0.toNat)) (u := a1) (b := (zSg a2 b3)) (by omega)
      refine r_aload hX dX2_moveDate_93 rfl ?_
      refine r_getN hX kg_X2_158 (a0.toNat + 5) (zWd_loc (d := a0.toNat) (by omega)) rfl dX2_moveDate_95 ?_
      refine r_callV hX (z_X2_putLocal ad cs S T rest hS a0.toNat (by omega) _ _ _ (by omega) (by omega) (by omega)) kv_X2_132 0 rfl rfl rfl rfl (Nat.le_of_ble_eq_true rfl) ⟨(Nat.le_of_ble_eq_true rfl), (Nat.le_of_ble_eq_true rfl)⟩ ⟨(Nat.le_of_ble_eq_true rfl), (Nat.le_of_ble_eq_true rfl)⟩ dX2_moveDate_98 (fun _ _ z => False.elim z) (fun v9 ws9 h10 => ?_)
      obtain ⟨rfl, hw9⟩ := h10
      subst ws9
      dsimp only [mPush]
      refine r_iret hX hE dX2_moveDate_101 (Nat.le_of_ble_eq_true rfl) (Nat.le_of_ble_eq_true rfl) ⟨by omega, ?_⟩
      unfold oMv
      rw [if_neg (by omega), if_neg (by omega)]
      exact ⟨rfl, rfl⟩
    · refine r_aload_n hX dX2_moveDate_53 rfl rfl ?_
      refine r_aload hX dX2_moveDate_54 rfl ?_
      refine r_aload hX dX2_moveDate_56 rfl ?_
      refine r_callV hX (z_X1_months _ _ (a0.toNat + 5) _ _ _ _ (zWd_loc (d := a0.toNat) (by omega)) (zrg hS (by omega)) (by omega)) kv_X2_136 (a0.toNat + 5) (zWd_loc (d := a0.toNat) (by omega)) rfl rfl rfl (Nat.le_of_ble_eq_true rfl) ⟨(Nat.le_of_ble_eq_true rfl), (Nat.le_of_ble_eq_true rfl)⟩ ⟨(Nat.le_of_ble_eq_true rfl), (Nat.le_of_ble_eq_true rfl)⟩ dX2_moveDate_58 (fun _ _ z => False.elim z) (fun v9 ws9 h11 => ?_)
      obtain ⟨rfl, hw9⟩ := h11
      subst ws9
      dsimp only [mPush]
      refine r_lload hX dX2_moveDate_61 rfl ?_
      refine r_laddZ hX dX2_moveDate_63 ?_
      refine r_callV hX (z_X2_putMonths ad cs S T rest hS a0.toNat (by omega) (by omega) _ (by omega)) kv_X2_142 0 rfl rfl rfl rfl (Nat.le_of_ble_eq_true rfl) ⟨(Nat.le_of_ble_eq_true rfl), (Nat.le_of_ble_eq_true rfl)⟩ ⟨(Nat.le_of_ble_eq_true rfl), (Nat.le_of_ble_eq_true rfl)⟩ dX2_moveDate_64 (fun _ _ z => False.elim z) (fun v9 ws9 h12 => ?_)
      obtain ⟨rfl, hw9⟩ := h12
      subst ws9
      dsimp only [mPush]
      refine r_iret hX hE dX2_moveDate_67 (Nat.le_of_ble_eq_true rfl) (Nat.le_of_ble_eq_true rfl) ⟨by omega, ?_⟩
      unfold oMv zMs
      first | rw [if_pos (by omega)] | rw [if_neg (by omega), if_pos (by omega)]
      exact ⟨rfl, rfl⟩
  · refine r_aload_n hX dX2_moveDate_29 rfl rfl ?_
    refine r_aload hX dX2_moveDate_30 rfl ?_
    refine r_aload hX dX2_moveDate_32 rfl ?_
    refine r_callV hX (z_X1_months _ _ (a0.toNat + 5) _ _ _ _ (zWd_loc (d := a0.toNat) (by omega)) (zrg hS (by omega)) (by omega)) kv_X2_136 (a0.toNat + 5) (zWd_loc (d := a0.toNat) (by omega)) rfl rfl rfl (Nat.le_of_ble_eq_true rfl) ⟨(Nat.le_of_ble_eq_true rfl), (Nat.le_of_ble_eq_true rfl)⟩ ⟨(Nat.le_of_ble_eq_true rfl), (Nat.le_of_ble_eq_true rfl)⟩ dX2_moveDate_34 (fun _ _ z => False.elim z) (fun v9 ws9 h13 => ?_)
    obtain ⟨rfl, hw9⟩ := h13
    subst ws9
    dsimp only [mPush]
    refine r_lload hX dX2_moveDate_37 rfl ?_
    refine r_ldc2Z (z := 12) hX kc_X2_140 (by decide) dX2_moveDate_39 ?_
    refine r_lmulZ hX dX2_moveDate_42 ?_
    refine r_laddZ hX dX2_moveDate_43 ?_
    refine r_callV hX (z_X2_putMonths ad cs S T rest hS a0.toNat (by omega) (by omega) _ (by omega)) kv_X2_142 0 rfl rfl rfl rfl (Nat.le_of_ble_eq_true rfl) ⟨(Nat.le_of_ble_eq_true rfl), (Nat.le_of_ble_eq_true rfl)⟩ ⟨(Nat.le_of_ble_eq_true rfl), (Nat.le_of_ble_eq_true rfl)⟩ dX2_moveDate_44 (fun _ _ z => False.elim z) (fun v9 ws9 h14 => ?_)
    obtain ⟨rfl, hw9⟩ := h14
    subst ws9
    dsimp only [mPush]
    refine r_iret hX hE dX2_moveDate_47 (Nat.le_of_ble_eq_true rfl) (Nat.le_of_ble_eq_true rfl) ⟨by omega, ?_⟩
    unfold oMv zMs
    first | rw [if_pos (by omega)] | rw [if_neg (by omega), if_pos (by omega)]
    exact ⟨rfl, rfl⟩
set_option maxHeartbeats 4000000 in
set_option maxRecDepth 20000 in
theorem z_X2_set (ad : Nat → Nat) (cs : ClassId × ClassId × ClassId) (S : mS) (T : mT2) (rest : va_W) (hS : sWF S) (a0 : Int) (h0 : rJ a0) (a1 : Int) (h1 : rJ a1) (a2 : Int) (h2 : rJ a2)  : mCt (mTy cs) yX2_set cX2_set 5 (some .int) ⟨7, 2, 12, 145⟩ [.ref (ad 0), .int (iZ a0), .int (iZ a1), .int (iZ a2)] (mWd ad cs (mKof S T) rest) (fun v ws' => (((0 ≤ a0 ∧ a0 < 4)) ∧ (0 ≤ a1 ∧ a1 ≤ 7)) ∧ v = some (.int (iZ (oSet S a0.toNat a1 a2).1)) ∧ ws' = mWd ad cs (mKof (oSet S a0.toNat a1 a2).2 T) rest) (fun E ws' => ws' = mWd ad cs (mKof S T) rest ∧ ((E = xI ∧ ¬ ((0 ≤ a0 ∧ a0 < 4))) ∨ (E = xA ∧ ((0 ≤ a0 ∧ a0 < 4)) ∧ ¬ (0 ≤ a1 ∧ a1 ≤ 7)))) := by
  refine mCt.of (by decide +kernel) (Nat.le_of_ble_eq_true rfl) (fun X hX hE => ?_)
  replace hX : mOK X RX2 cX2_set 5 ⟨7, 2, 12, 145⟩ [] (mTy cs) := hX
  refine r_aload_n hX dX2_set_0 rfl rfl ?_
  refine r_get hX kf_X2_20 0 rfl rfl dX2_set_1 ?_
  refine r_iload_n hX dX2_set_4 rfl rfl ?_
  refine r_callS hX (z_X2_at ad cs _ 3 _ 4 0 rfl (by decide) _ (by omega)) ks_X2_84 rfl rfl (Nat.le_of_ble_eq_true rfl) ⟨(Nat.le_of_ble_eq_true rfl), (Nat.le_of_ble_eq_true rfl)⟩ ⟨(Nat.le_of_ble_eq_true rfl), (Nat.le_of_ble_eq_true rfl)⟩ dX2_set_5 (fun E ws9 z => r_out hX hE (Nat.le_of_ble_eq_true rfl) (Nat.le_of_ble_eq_true rfl) ⟨z.2.1, Or.inl ⟨z.1, fun q => z.2.2 (by omega)⟩⟩) (fun v9 ws9 h1 => ?_)
  obtain ⟨hi2, rfl, hw9⟩ := h1
  subst ws9
  dsimp only [mPush]
  refine r_astore hX dX2_set_8 (by decide) rfl ?_
  refine r_iload_n hX dX2_set_10 rfl rfl ?_
  refine r_iconstZ hX dX2_set_11 ?_
  refine r_bipushZ hX dX2_set_12 (by decide) ?_
  refine r_callS hX (z_X2_requireWithin _ _ _ _ _ (by omega) (by omega) (by omega)) ks_X2_40 rfl rfl (Nat.le_of_ble_eq_true rfl) ⟨(Nat.le_of_ble_eq_true rfl), (Nat.le_of_ble_eq_true rfl)⟩ ⟨(Nat.le_of_ble_eq_true rfl), (Nat.le_of_ble_eq_true rfl)⟩ dX2_set_14 (fun E ws9 z => r_out hX hE (Nat.le_of_ble_eq_true rfl) (Nat.le_of_ble_eq_true rfl) ⟨z.2.1, Or.inr ⟨z.1, by omega, fun q => z.2.2 (by omega)⟩⟩) (fun v9 ws9 h3 => ?_)
  obtain ⟨hi4, rfl, hw9⟩ := h3
  subst ws9
  dsimp only [mPush]
  refine r_iload_n hX dX2_set_17 rfl rfl ?_
  refine r_iconstZ hX dX2_set_18 ?_
  refine r_icmp_gtZ (tgt := 33) hX dX2_set_19 (by decide) (by omega) (by decide) (fun c5 => ?_) (fun c5 => ?_)
  · refine r_aload_n hX dX2_set_33 rfl rfl ?_
    refine r_aload hX dX2_set_34 rfl ?_
    refine r_iload_n hX dX2_set_36 rfl rfl ?_
    refine r_iload_n hX dX2_set_37 rfl rfl ?_
    refine r_callV hX (z_X2_setOfTime ad cs S T rest hS a0.toNat (by omega) (by omega) _ (by omega) _ (by omega)) kv_X2_166 0 rfl rfl rfl rfl (Nat.le_of_ble_eq_true rfl) ⟨(Nat.le_of_ble_eq_true rfl), (Nat.le_of_ble_eq_true rfl)⟩ ⟨(Nat.le_of_ble_eq_true rfl), (Nat.le_of_ble_eq_true rfl)⟩ dX2_set_38 (fun _ _ z => False.elim z) (fun v9 ws9 h6 => ?_)
    obtain ⟨rfl, hw9⟩ := h6
    subst ws9
    dsimp only [mPush]
    refine r_iret hX hE dX2_set_41 (Nat.le_of_ble_eq_true rfl) (Nat.le_of_ble_eq_true rfl) ⟨by omega, ?_⟩
    unfold oSet
    rw [if_neg (by omega)]
    exact ⟨rfl, rfl⟩
  · refine r_aload_n hX dX2_set_22 rfl rfl ?_
    refine r_aload hX dX2_set_23 rfl ?_
    refine r_iload_n hX dX2_set_25 rfl rfl ?_
    refine r_iload_n hX dX2_set_26 rfl rfl ?_
    refine r_callV hX (z_X2_setOfDay ad cs S T rest hS a0.toNat (by omega) (by omega) _ (by omega) _ (by omega)) kv_X2_162 0 rfl rfl rfl rfl (Nat.le_of_ble_eq_true rfl) ⟨(Nat.le_of_ble_eq_true rfl), (Nat.le_of_ble_eq_true rfl)⟩ ⟨(Nat.le_of_ble_eq_true rfl), (Nat.le_of_ble_eq_true rfl)⟩ dX2_set_27 (fun _ _ z => False.elim z) (fun v9 ws9 h7 => ?_)
    obtain ⟨rfl, hw9⟩ := h7
    subst ws9
    dsimp only [mPush]
    refine r_goto (tgt := 41) hX dX2_set_30 (by decide) ?_
    refine r_iret hX hE dX2_set_41 (Nat.le_of_ble_eq_true rfl) (Nat.le_of_ble_eq_true rfl) ⟨by omega, ?_⟩
    unfold oSet
    rw [if_pos (by omega)]
    exact ⟨rfl, rfl⟩
set_option maxHeartbeats 4000000 in
set_option maxRecDepth 20000 in
theorem z_X2_anew (ad : Nat → Nat) (cs : ClassId × ClassId × ClassId) (S : mS) (T : mT2) (rest : va_W) (hS : sWF S) (a0 : Int) (h0 : rJ a0) (a1 : Int) (h1 : rJ a1) (b2 : Bool)  : mCt (mTy cs) yX2_anew cX2_anew 8 (some .int) ⟨8, 2, 12, 124⟩ [.ref (ad 0), .int (iZ a0), .int (iZ a1), .int (b2i b2)] (mWd ad cs (mKof S T) rest) (fun v ws' => (((0 ≤ a0 ∧ a0 < 4) ∧ (0 ≤ a1 ∧ a1 < 4)) ∧ (0 ≤ (0 : Int))) ∧ v = some (.int (iZ (oLoc S a0.toNat (cond b2 (sse S a0.toNat) (sse S a0.toNat - sow S a0.toNat + sof S a1.toNat)) (sna S a0.toNat) (sof S a1.toNat)).1)) ∧ ws' = mWd ad cs (mKof (oLoc S a0.toNat (cond b2 (sse S a0.toNat) (sse S a0.toNat - sow S a0.toNat + sof S a1.toNat)) (sna S a0.toNat) (sof S a1.toNat)).2 T) rest) (fun E ws' => ws' = mWd ad cs (mKof S T) rest ∧ ((E = xI ∧ ¬ ((0 ≤ a0 ∧ a0 < 4) ∧ (0 ≤ a1 ∧ a1 < 4))) ∨ (E = xA ∧ ((0 ≤ a0 ∧ a0 < 4) ∧ (0 ≤ a1 ∧ a1 < 4)) ∧ ¬ (0 ≤ (0 : Int))))) := by
  refine mCt.of (by decide +kernel) (Nat.le_of_ble_eq_true rfl) (fun X hX hE => ?_)
  replace hX : mOK X RX2 cX2_anew 8 ⟨8, 2, 12, 124⟩ [] (mTy cs) := hX
  refine r_aload_n hX dX2_anew_0 rfl rfl ?_
  refine r_get hX kf_X2_20 0 rfl rfl dX2_anew_1 ?_
  refine r_iload_n hX dX2_anew_4 rfl rfl ?_
  refine r_callS hX (z_X2_at ad cs _ 3 _ 4 0 rfl (by decide) _ (by omega)) ks_X2_84 rfl rfl (Nat.le_of_ble_eq_true rfl) ⟨(Nat.le_of_ble_eq_true rfl), (Nat.le_of_ble_eq_true rfl)⟩ ⟨(Nat.le_of_ble_eq_true rfl), (Nat.le_of_ble_eq_true rfl)⟩ dX2_anew_5 (fun E ws9 z => r_out hX hE (Nat.le_of_ble_eq_true rfl) (Nat.le_of_ble_eq_true rfl) ⟨z.2.1, Or.inl ⟨z.1, fun q => z.2.2 (by omega)⟩⟩) (fun v9 ws9 h1 => ?_)
  obtain ⟨hi2, rfl, hw9⟩ := h1
  subst ws9
  dsimp only [mPush]
  refine r_astore hX dX2_anew_8 (by decide) rfl ?_
  refine r_aload_n hX dX2_anew_10 rfl rfl ?_
  refine r_iload_n hX dX2_anew_11 rfl rfl ?_
  have hr0 := zrg hS (d := a0.toNat) (by omega)
  refine r_callV hX (z_X2_seconds ad cs S T rest hS _ (by omega)) kv_X2_64 0 rfl rfl rfl rfl (Nat.le_of_ble_eq_true rfl) ⟨(Nat.le_of_ble_eq_true rfl), (Nat.le_of_ble_eq_true rfl)⟩ ⟨(Nat.le_of_ble_eq_true rfl), (Nat.le_of_ble_eq_true rfl)⟩ dX2_anew_12 (fun E ws9 z => r_out hX hE (Nat.le_of_ble_eq_true rfl) (Nat.le_of_ble_eq_true rfl) ⟨z.2.1, Or.inl ⟨z.1, fun q => z.2.2 (by omega)⟩⟩) (fun v9 ws9 h3 => ?_)
  obtain ⟨hi4, rfl, hw9⟩ := h3
  subst ws9
  dsimp only [mPush]
  have hof4 := hS.1 a1.toNat (by omega)
  refine r_istore hX dX2_anew_15 (by decide) rfl ?_
  refine r_iload_n hX dX2_anew_17 rfl rfl ?_
  refine r_if_eqB (tgt := 29) hX dX2_anew_18 (by decide) (fun c5 => ?_) (fun c5 => ?_)
  · have c5 := id c5
    refine r_aload hX dX2_anew_29 rfl ?_
    refine r_callV hX (z_X1_momentSecond _ _ (a0.toNat + 5) _ _ _ _ (zWd_loc (d := a0.toNat) (by omega)) (zrg hS (by omega))) kv_X2_169 (a0.toNat + 5) (zWd_loc (d := a0.toNat) (by omega)) rfl rfl rfl (Nat.le_of_ble_eq_true rfl) ⟨(Nat.le_of_ble_eq_true rfl), (Nat.le_of_ble_eq_true rfl)⟩ ⟨(Nat.le_of_ble_eq_true rfl), (Nat.le_of_ble_eq_true rfl)⟩ dX2_anew_31 (fun _ _ z => False.elim z) (fun v9 ws9 h6 => ?_)
    obtain ⟨rfl, hw9⟩ := h6
    subst ws9
    dsimp only [mPush]
    refine r_iload hX dX2_anew_34 rfl ?_
    refine r_i2lZ hX dX2_anew_36 (by omega) ?_
    refine r_laddZ hX dX2_anew_37 ?_
    refine r_lstore hX dX2_anew_38 (by decide) rfl ?_
    refine r_aload_n hX dX2_anew_40 rfl rfl ?_
    refine r_aload hX dX2_anew_41 rfl ?_
    refine r_lload hX dX2_anew_43 rfl ?_
    refine r_aload hX dX2_anew_45 rfl ?_
    refine r_getN hX kg_X2_172 (a0.toNat + 5) (zWd_loc (d := a0.toNat) (by omega)) rfl dX2_anew_47 ?_
    refine r_iload hX dX2_anew_50 rfl ?_
    refine r_callV hX (z_X2_putLocal ad cs S T rest hS a0.toNat (by omega) _ _ _ (by omega) (by omega) (by omega)) kv_X2_132 0 rfl rfl rfl rfl (Nat.le_of_ble_eq_true rfl) ⟨(Nat.le_of_ble_eq_true rfl), (Nat.le_of_ble_eq_true rfl)⟩ ⟨(Nat.le_of_ble_eq_true rfl), (Nat.le_of_ble_eq_true rfl)⟩ dX2_anew_52 (fun _ _ z => False.elim z) (fun v9 ws9 h7 => ?_)
    obtain ⟨rfl, hw9⟩ := h7
    subst ws9
    dsimp only [mPush]
    refine r_iret hX hE dX2_anew_55 (Nat.le_of_ble_eq_true rfl) (Nat.le_of_ble_eq_true rfl) ⟨by omega, ?_⟩
    first | (rw [show b2 = true by assumption]; exact ⟨rfl, rfl⟩) | (rw [show b2 = false by assumption]; exact ⟨rfl, rfl⟩)
  · have c5 := id c5
    refine r_aload hX dX2_anew_21 rfl ?_
    refine r_getN hX kg_X2_146 (a0.toNat + 5) (zWd_loc (d := a0.toNat) (by omega)) rfl dX2_anew_23 ?_
    refine r_goto (tgt := 38) hX dX2_anew_26 (by decide) ?_
    refine r_lstore hX dX2_anew_38 (by decide) rfl ?_
    refine r_aload_n hX dX2_anew_40 rfl rfl ?_
    refine r_aload hX dX2_anew_41 rfl ?_
    refine r_lload hX dX2_anew_43 rfl ?_
    refine r_aload hX dX2_anew_45 rfl ?_
    refine r_getN hX kg_X2_172 (a0.toNat + 5) (zWd_loc (d := a0.toNat) (by omega)) rfl dX2_anew_47 ?_
    refine r_iload hX dX2_anew_50 rfl ?_
    refine r_callV hX (z_X2_putLocal ad cs S T rest hS a0.toNat (by omega) _ _ _ (by omega) (by omega) (by omega)) kv_X2_132 0 rfl rfl rfl rfl (Nat.le_of_ble_eq_true rfl) ⟨(Nat.le_of_ble_eq_true rfl), (Nat.le_of_ble_eq_true rfl)⟩ ⟨(Nat.le_of_ble_eq_true rfl), (Nat.le_of_ble_eq_true rfl)⟩ dX2_anew_52 (fun _ _ z => False.elim z) (fun v9 ws9 h8 => ?_)
    obtain ⟨rfl, hw9⟩ := h8
    subst ws9
    dsimp only [mPush]
    refine r_iret hX hE dX2_anew_55 (Nat.le_of_ble_eq_true rfl) (Nat.le_of_ble_eq_true rfl) ⟨by omega, ?_⟩
    first | (rw [show b2 = true by assumption]; exact ⟨rfl, rfl⟩) | (rw [show b2 = false by assumption]; exact ⟨rfl, rfl⟩)
set_option maxHeartbeats 4000000 in
set_option maxRecDepth 20000 in
theorem z_X2_copy (ad : Nat → Nat) (cs : ClassId × ClassId × ClassId) (S : mS) (T : mT2) (rest : va_W) (hS : sWF S) (a0 : Int) (h0 : rJ a0) (a1 : Int) (h1 : rJ a1)  : mCt (mTy cs) yX2_copy cX2_copy 5 (some .int) ⟨7, 2, 12, 103⟩ [.ref (ad 0), .int (iZ a0), .int (iZ a1)] (mWd ad cs (mKof S T) rest) (fun v ws' => (((0 ≤ a0 ∧ a0 < 4) ∧ (0 ≤ a1 ∧ a1 < 4)) ∧ (0 ≤ (0 : Int))) ∧ v = some (.int (iZ (oLoc S a0.toNat (sse S a1.toNat) (sna S a1.toNat) (sow S a1.toNat)).1)) ∧ ws' = mWd ad cs (mKof (oLoc S a0.toNat (sse S a1.toNat) (sna S a1.toNat) (sow S a1.toNat)).2 T) rest) (fun E ws' => ws' = mWd ad cs (mKof S T) rest ∧ ((E = xI ∧ ¬ ((0 ≤ a0 ∧ a0 < 4) ∧ (0 ≤ a1 ∧ a1 < 4))) ∨ (E = xA ∧ ((0 ≤ a0 ∧ a0 < 4) ∧ (0 ≤ a1 ∧ a1 < 4)) ∧ ¬ (0 ≤ (0 : Int))))) := by
  refine mCt.of (by decide +kernel) (Nat.le_of_ble_eq_true rfl) (fun X hX hE => ?_)
  replace hX : mOK X RX2 cX2_copy 5 ⟨7, 2, 12, 103⟩ [] (mTy cs) := hX
  refine r_aload_n hX dX2_copy_0 rfl rfl ?_
  refine r_get hX kf_X2_20 0 rfl rfl dX2_copy_1 ?_
  refine r_iload_n hX dX2_copy_4 rfl rfl ?_
  refine r_callS hX (z_X2_at ad cs _ 3 _ 4 0 rfl (by decide) _ (by omega)) ks_X2_84 rfl rfl (Nat.le_of_ble_eq_true rfl) ⟨(Nat.le_of_ble_eq_true rfl), (Nat.le_of_ble_eq_true rfl)⟩ ⟨(Nat.le_of_ble_eq_true rfl), (Nat.le_of_ble_eq_true rfl)⟩ dX2_copy_5 (fun E ws9 z => r_out hX hE (Nat.le_of_ble_eq_true rfl) (Nat.le_of_ble_eq_true rfl) ⟨z.2.1, Or.inl ⟨z.1, fun q => z.2.2 (by omega)⟩⟩) (fun v9 ws9 h1 => ?_)
  obtain ⟨hi2, rfl, hw9⟩ := h1
  subst ws9
  dsimp only [mPush]
  refine r_astore_n hX dX2_copy_8 rfl (by decide) rfl ?_
  refine r_aload_n hX dX2_copy_9 rfl rfl ?_
  refine r_get hX kf_X2_20 0 rfl rfl dX2_copy_10 ?_
  refine r_iload_n hX dX2_copy_13 rfl rfl ?_
  refine r_callS hX (z_X2_at ad cs _ 3 _ 4 0 rfl (by decide) _ (by omega)) ks_X2_84 rfl rfl (Nat.le_of_ble_eq_true rfl) ⟨(Nat.le_of_ble_eq_true rfl), (Nat.le_of_ble_eq_true rfl)⟩ ⟨(Nat.le_of_ble_eq_true rfl), (Nat.le_of_ble_eq_true rfl)⟩ dX2_copy_14 (fun E ws9 z => r_out hX hE (Nat.le_of_ble_eq_true rfl) (Nat.le_of_ble_eq_true rfl) ⟨z.2.1, Or.inl ⟨z.1, fun q => z.2.2 (by omega)⟩⟩) (fun v9 ws9 h3 => ?_)
  obtain ⟨hi4, rfl, hw9⟩ := h3
  subst ws9
  dsimp only [mPush]
  refine r_astore hX dX2_copy_17 (by decide) rfl ?_
  refine r_aload_n hX dX2_copy_19 rfl rfl ?_
  refine r_aload_n hX dX2_copy_20 rfl rfl ?_
  refine r_aload hX dX2_copy_21 rfl ?_
  refine r_getN hX kg_X2_146 (a1.toNat + 5) (zWd_loc (d := a1.toNat) (by omega)) rfl dX2_copy_23 ?_
  refine r_aload hX dX2_copy_26 rfl ?_
  refine r_getN hX kg_X2_172 (a1.toNat + 5) (zWd_loc (d := a1.toNat) (by omega)) rfl dX2_copy_28 ?_
  refine r_aload hX dX2_copy_31 rfl ?_
  refine r_getN hX kg_X2_158 (a1.toNat + 5) (zWd_loc (d := a1.toNat) (by omega)) rfl dX2_copy_33 ?_
  have hr1 := zrg hS (d := a1.toNat) (by omega)
  refine r_callV hX (z_X2_putLocal ad cs S T rest hS a0.toNat (by omega) _ _ _ (by omega) (by omega) (by omega)) kv_X2_132 0 rfl rfl rfl rfl (Nat.le_of_ble_eq_true rfl) ⟨(Nat.le_of_ble_eq_true rfl), (Nat.le_of_ble_eq_true rfl)⟩ ⟨(Nat.le_of_ble_eq_true rfl), (Nat.le_of_ble_eq_true rfl)⟩ dX2_copy_36 (fun _ _ z => False.elim z) (fun v9 ws9 h5 => ?_)
  obtain ⟨rfl, hw9⟩ := h5
  subst ws9
  dsimp only [mPush]
  refine r_iret hX hE dX2_copy_39 (Nat.le_of_ble_eq_true rfl) (Nat.le_of_ble_eq_true rfl) ⟨by omega, ?_⟩
  exact ⟨rfl, rfl⟩
set_option maxHeartbeats 4000000 in
set_option maxRecDepth 20000 in
theorem z_X2_ofDate (ad : Nat → Nat) (cs : ClassId × ClassId × ClassId) (S : mS) (T : mT2) (rest : va_W) (hS : sWF S) (a0 : Int) (h0 : rJ a0) (a1 : Int) (h1 : rJ a1)  : mCt (mTy cs) yX2_ofDate cX2_ofDate 4 (some .int) ⟨7, 2, 12, 107⟩ [.ref (ad 0), .int (iZ a0), .int (iZ a1)] (mWd ad cs (mKof S T) rest) (fun v ws' => (((0 ≤ a0 ∧ a0 < 4)) ∧ (0 ≤ a1 ∧ a1 ≤ 12)) ∧ v = some (.int (iZ (zDP (sse S a0.toNat) (sna S a0.toNat) (sow S a0.toNat) a1))) ∧ ws' = mWd ad cs (mKof S T) rest) (fun E ws' => ws' = mWd ad cs (mKof S T) rest ∧ ((E = xI ∧ ¬ ((0 ≤ a0 ∧ a0 < 4))) ∨ (E = xA ∧ ((0 ≤ a0 ∧ a0 < 4)) ∧ ¬ (0 ≤ a1 ∧ a1 ≤ 12)))) := by
  refine mCt.of (by decide +kernel) (Nat.le_of_ble_eq_true rfl) (fun X hX hE => ?_)
  replace hX : mOK X RX2 cX2_ofDate 4 ⟨7, 2, 12, 107⟩ [] (mTy cs) := hX
  refine r_aload_n hX dX2_ofDate_0 rfl rfl ?_
  refine r_get hX kf_X2_20 0 rfl rfl dX2_ofDate_1 ?_
  refine r_iload_n hX dX2_ofDate_4 rfl rfl ?_
  refine r_callS hX (z_X2_at ad cs _ 3 _ 4 0 rfl (by decide) _ (by omega)) ks_X2_84 rfl rfl (Nat.le_of_ble_eq_true rfl) ⟨(Nat.le_of_ble_eq_true rfl), (Nat.le_of_ble_eq_true rfl)⟩ ⟨(Nat.le_of_ble_eq_true rfl), (Nat.le_of_ble_eq_true rfl)⟩ dX2_ofDate_5 (fun E ws9 z => r_out hX hE (Nat.le_of_ble_eq_true rfl) (Nat.le_of_ble_eq_true rfl) ⟨z.2.1, Or.inl ⟨z.1, fun q => z.2.2 (by omega)⟩⟩) (fun v9 ws9 h1 => ?_)
  obtain ⟨hi2, rfl, hw9⟩ := h1
  subst ws9
  dsimp only [mPush]
  refine r_astore_n hX dX2_ofDate_8 rfl (by decide) rfl ?_
  refine r_iload_n hX dX2_ofDate_9 rfl rfl ?_
  refine r_iconstZ hX dX2_ofDate_10 ?_
  refine r_bipushZ hX dX2_ofDate_11 (by decide) ?_
  refine r_callS hX (z_X2_requireWithin _ _ _ _ _ (by omega) (by omega) (by omega)) ks_X2_40 rfl rfl (Nat.le_of_ble_eq_true rfl) ⟨(Nat.le_of_ble_eq_true rfl), (Nat.le_of_ble_eq_true rfl)⟩ ⟨(Nat.le_of_ble_eq_true rfl), (Nat.le_of_ble_eq_true rfl)⟩ dX2_ofDate_13 (fun E ws9 z => r_out hX hE (Nat.le_of_ble_eq_true rfl) (Nat.le_of_ble_eq_true rfl) ⟨z.2.1, Or.inr ⟨z.1, by omega, fun q => z.2.2 (by omega)⟩⟩) (fun v9 ws9 h3 => ?_)
  obtain ⟨hi4, rfl, hw9⟩ := h3
  subst ws9
  dsimp only [mPush]
  refine r_aload_n hX dX2_ofDate_16 rfl rfl ?_
  refine r_iload_n hX dX2_ofDate_17 rfl rfl ?_
  have hse := hS.2.2.2.1 a0.toNat (by omega)
  refine r_callS hX (z_X2_datePart _ _ (a0.toNat + 5) _ _ _ _ (zWd_loc (d := a0.toNat) (by omega)) (zrg hS (by omega)) _ (by omega) (by omega)) ks_X2_175 rfl rfl (Nat.le_of_ble_eq_true rfl) ⟨(Nat.le_of_ble_eq_true rfl), (Nat.le_of_ble_eq_true rfl)⟩ ⟨(Nat.le_of_ble_eq_true rfl), (Nat.le_of_ble_eq_true rfl)⟩ dX2_ofDate_18 (fun _ _ z => False.elim z) (fun v9 ws9 h5 => ?_)
  obtain ⟨rfl, hw9⟩ := h5
  subst ws9
  dsimp only [mPush]
  refine r_iret hX hE dX2_ofDate_21 (Nat.le_of_ble_eq_true rfl) (Nat.le_of_ble_eq_true rfl) ⟨by omega, zi ?_, rfl⟩
  rfl
set_option maxHeartbeats 4000000 in
set_option maxRecDepth 20000 in
theorem z_X2_orderDate (ad : Nat → Nat) (cs : ClassId × ClassId × ClassId) (S : mS) (T : mT2) (rest : va_W) (hS : sWF S) (a0 : Int) (h0 : rJ a0) (a1 : Int) (h1 : rJ a1)  : mCt (mTy cs) yX2_orderDate cX2_orderDate 3 (some .int) ⟨7, 2, 12, 103⟩ [.ref (ad 0), .int (iZ a0), .int (iZ a1)] (mWd ad cs (mKof S T) rest) (fun v ws' => (((0 ≤ a0 ∧ a0 < 4) ∧ (0 ≤ a1 ∧ a1 < 4)) ∧ (0 ≤ (0 : Int))) ∧ v = some (.int (iZ (zTo (sse S a0.toNat) (sna S a0.toNat) (sow S a0.toNat) (sse S a1.toNat) (sna S a1.toNat) (sow S a1.toNat)))) ∧ ws' = mWd ad cs (mKof S T) rest) (fun E ws' => ws' = mWd ad cs (mKof S T) rest ∧ ((E = xI ∧ ¬ ((0 ≤ a0 ∧ a0 < 4) ∧ (0 ≤ a1 ∧ a1 < 4))) ∨ (E = xA ∧ ((0 ≤ a0 ∧ a0 < 4) ∧ (0 ≤ a1 ∧ a1 < 4)) ∧ ¬ (0 ≤ (0 : Int))))) := by
  refine mCt.of (by decide +kernel) (Nat.le_of_ble_eq_true rfl) (fun X hX hE => ?_)
  replace hX : mOK X RX2 cX2_orderDate 3 ⟨7, 2, 12, 103⟩ [] (mTy cs) := hX
  refine r_aload_n hX dX2_orderDate_0 rfl rfl ?_
  refine r_get hX kf_X2_20 0 rfl rfl dX2_orderDate_1 ?_
  refine r_iload_n hX dX2_orderDate_4 rfl rfl ?_
  refine r_callS hX (z_X2_at ad cs _ 3 _ 4 0 rfl (by decide) _ (by omega)) ks_X2_84 rfl rfl (Nat.le_of_ble_eq_true rfl) ⟨(Nat.le_of_ble_eq_true rfl), (Nat.le_of_ble_eq_true rfl)⟩ ⟨(Nat.le_of_ble_eq_true rfl), (Nat.le_of_ble_eq_true rfl)⟩ dX2_orderDate_5 (fun E ws9 z => r_out hX hE (Nat.le_of_ble_eq_true rfl) (Nat.le_of_ble_eq_true rfl) ⟨z.2.1, Or.inl ⟨z.1, fun q => z.2.2 (by omega)⟩⟩) (fun v9 ws9 h1 => ?_)
  obtain ⟨hi2, rfl, hw9⟩ := h1
  subst ws9
  dsimp only [mPush]
  refine r_aload_n hX dX2_orderDate_8 rfl rfl ?_
  refine r_get hX kf_X2_20 0 rfl rfl dX2_orderDate_9 ?_
  refine r_iload_n hX dX2_orderDate_12 rfl rfl ?_
  refine r_callS hX (z_X2_at ad cs _ 3 _ 4 0 rfl (by decide) _ (by omega)) ks_X2_84 rfl rfl (Nat.le_of_ble_eq_true rfl) ⟨(Nat.le_of_ble_eq_true rfl), (Nat.le_of_ble_eq_true rfl)⟩ ⟨(Nat.le_of_ble_eq_true rfl), (Nat.le_of_ble_eq_true rfl)⟩ dX2_orderDate_13 (fun E ws9 z => r_out hX hE (Nat.le_of_ble_eq_true rfl) (Nat.le_of_ble_eq_true rfl) ⟨z.2.1, Or.inl ⟨z.1, fun q => z.2.2 (by omega)⟩⟩) (fun v9 ws9 h3 => ?_)
  obtain ⟨hi4, rfl, hw9⟩ := h3
  subst ws9
  dsimp only [mPush]
  refine r_callV hX (z_X1_orderTo _ _ (a0.toNat + 5) _ _ _ _ (zWd_loc (d := a0.toNat) (by omega)) (zrg hS (by omega)) (a1.toNat + 5) _ _ _ _ (zWd_loc (d := a1.toNat) (by omega)) (zrg hS (by omega))) kv_X2_179 (a0.toNat + 5) (zWd_loc (d := a0.toNat) (by omega)) rfl rfl rfl (Nat.le_of_ble_eq_true rfl) ⟨(Nat.le_of_ble_eq_true rfl), (Nat.le_of_ble_eq_true rfl)⟩ ⟨(Nat.le_of_ble_eq_true rfl), (Nat.le_of_ble_eq_true rfl)⟩ dX2_orderDate_16 (fun _ _ z => False.elim z) (fun v9 ws9 h5 => ?_)
  obtain ⟨rfl, hw9⟩ := h5
  subst ws9
  dsimp only [mPush]
  have hb5 := zTo_b (sse S a0.toNat) (sna S a0.toNat) (sow S a0.toNat) (sse S a1.toNat) (sna S a1.toNat) (sow S a1.toNat)
  refine r_iret hX hE dX2_orderDate_19 (Nat.le_of_ble_eq_true rfl) (Nat.le_of_ble_eq_true rfl) ⟨by omega, zi ?_, rfl⟩
  rfl
set_option maxHeartbeats 4000000 in
set_option maxRecDepth 20000 in
theorem z_X2_isDate (ad : Nat → Nat) (cs : ClassId × ClassId × ClassId) (S : mS) (T : mT2) (rest : va_W) (hS : sWF S) (a0 : Int) (h0 : rJ a0) (a1 : Int) (h1 : rJ a1) (a2 : Int) (h2 : rJ a2)  : mCt (mTy cs) yX2_isDate cX2_isDate 6 (some .boolean) ⟨7, 3, 18, 104⟩ [.ref (ad 0), .int (iZ a0), .int (iZ a1), .int (iZ a2)] (mWd ad cs (mKof S T) rest) (fun v ws' => (((0 ≤ a0 ∧ a0 < 4) ∧ (0 ≤ a1 ∧ a1 < 4)) ∧ (0 ≤ a2 ∧ a2 ≤ 3)) ∧ v = some (.int (b2i (zSo (sse S a0.toNat) (sna S a0.toNat) (sow S a0.toNat) (sse S a1.toNat) (sna S a1.toNat) (sow S a1.toNat) a2))) ∧ ws' = mWd ad cs (mKof S T) rest) (fun E ws' => ws' = mWd ad cs (mKof S T) rest ∧ ((E = xI ∧ ¬ ((0 ≤ a0 ∧ a0 < 4) ∧ (0 ≤ a1 ∧ a1 < 4))) ∨ (E = xA ∧ ((0 ≤ a0 ∧ a0 < 4) ∧ (0 ≤ a1 ∧ a1 < 4)) ∧ ¬ (0 ≤ a2 ∧ a2 ≤ 3)))) := by
  refine mCt.of (by decide +kernel) (Nat.le_of_ble_eq_true rfl) (fun X hX hE => ?_)
  replace hX : mOK X RX2 cX2_isDate 6 ⟨7, 3, 18, 104⟩ [] (mTy cs) := hX
  refine r_aload_n hX dX2_isDate_0 rfl rfl ?_
  refine r_get hX kf_X2_20 0 rfl rfl dX2_isDate_1 ?_
  refine r_iload_n hX dX2_isDate_4 rfl rfl ?_
  refine r_callS hX (z_X2_at ad cs _ 3 _ 4 0 rfl (by decide) _ (by omega)) ks_X2_84 rfl rfl (Nat.le_of_ble_eq_true rfl) ⟨(Nat.le_of_ble_eq_true rfl), (Nat.le_of_ble_eq_true rfl)⟩ ⟨(Nat.le_of_ble_eq_true rfl), (Nat.le_of_ble_eq_true rfl)⟩ dX2_isDate_5 (fun E ws9 z => r_out hX hE (Nat.le_of_ble_eq_true rfl) (Nat.le_of_ble_eq_true rfl) ⟨z.2.1, Or.inl ⟨z.1, fun q => z.2.2 (by omega)⟩⟩) (fun v9 ws9 h1 => ?_)
  obtain ⟨hi2, rfl, hw9⟩ := h1
  subst ws9
  dsimp only [mPush]
  refine r_astore hX dX2_isDate_8 (by decide) rfl ?_
  refine r_aload_n hX dX2_isDate_10 rfl rfl ?_
  refine r_get hX kf_X2_20 0 rfl rfl dX2_isDate_11 ?_
  refine r_iload_n hX dX2_isDate_14 rfl rfl ?_
  refine r_callS hX (z_X2_at ad cs _ 3 _ 4 0 rfl (by decide) _ (by omega)) ks_X2_84 rfl rfl (Nat.le_of_ble_eq_true rfl) ⟨(Nat.le_of_ble_eq_true rfl), (Nat.le_of_ble_eq_true rfl)⟩ ⟨(Nat.le_of_ble_eq_true rfl), (Nat.le_of_ble_eq_true rfl)⟩ dX2_isDate_15 (fun E ws9 z => r_out hX hE (Nat.le_of_ble_eq_true rfl) (Nat.le_of_ble_eq_true rfl) ⟨z.2.1, Or.inl ⟨z.1, fun q => z.2.2 (by omega)⟩⟩) (fun v9 ws9 h3 => ?_)
  obtain ⟨hi4, rfl, hw9⟩ := h3
  subst ws9
  dsimp only [mPush]
  refine r_astore hX dX2_isDate_18 (by decide) rfl ?_
  refine r_iload_n hX dX2_isDate_20 rfl rfl ?_
  refine r_iconstZ hX dX2_isDate_21 ?_
  refine r_iconstZ hX dX2_isDate_22 ?_
  refine r_callS hX (z_X2_requireWithin _ _ _ _ _ (by omega) (by omega) (by omega)) ks_X2_40 rfl rfl (Nat.le_of_ble_eq_true rfl) ⟨(Nat.le_of_ble_eq_true rfl), (Nat.le_of_ble_eq_true rfl)⟩ ⟨(Nat.le_of_ble_eq_true rfl), (Nat.le_of_ble_eq_true rfl)⟩ dX2_isDate_23 (fun E ws9 z => r_out hX hE (Nat.le_of_ble_eq_true rfl) (Nat.le_of_ble_eq_true rfl) ⟨z.2.1, Or.inr ⟨z.1, by omega, fun q => z.2.2 (by omega)⟩⟩) (fun v9 ws9 h5 => ?_)
  obtain ⟨hi6, rfl, hw9⟩ := h5
  subst ws9
  dsimp only [mPush]
  refine r_aload hX dX2_isDate_26 rfl ?_
  refine r_aload hX dX2_isDate_28 rfl ?_
  refine r_iload_n hX dX2_isDate_30 rfl rfl ?_
  refine r_callS hX (z_X2_isSo _ _ (a0.toNat + 5) _ _ _ _ (zWd_loc (d := a0.toNat) (by omega)) (zrg hS (by omega)) (a1.toNat + 5) _ _ _ _ (zWd_loc (d := a1.toNat) (by omega)) (zrg hS (by omega)) _ (by omega)) ks_X2_183 rfl rfl (Nat.le_of_ble_eq_true rfl) ⟨(Nat.le_of_ble_eq_true rfl), (Nat.le_of_ble_eq_true rfl)⟩ ⟨(Nat.le_of_ble_eq_true rfl), (Nat.le_of_ble_eq_true rfl)⟩ dX2_isDate_31 (fun _ _ z => False.elim z) (fun v9 ws9 h7 => ?_)
  obtain ⟨rfl, hw9⟩ := h7
  subst ws9
  dsimp only [mPush]
  refine r_zret hX hE dX2_isDate_34 (b2i_n _) (Nat.le_of_ble_eq_true rfl) (Nat.le_of_ble_eq_true rfl) ⟨by omega, zb ?_, rfl⟩
  rfl

