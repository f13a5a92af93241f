/-! The class, exact (rows by a program of this repository). -/
set_option maxHeartbeats 4000000 in
set_option maxRecDepth 20000 in
theorem z_X2_putMonths (ad : Nat → Nat) (cs : ClassId × ClassId × ClassId) (S : mS) (T : mT2) (rest : va_W) (hS : sWF S) (d : Nat) (hd : d < 7) (hd4 : d < 4) (m : Int) (hm : -9000000000000000000 ≤ m ∧ m ≤ 9000000000000000000)  : mCt (mTy cs) yX2_putMonths cX2_putMonths 9 (some .int) ⟨4, 0, 0, 92⟩ [.ref (ad 0), .ref (ad (d + 5)), .long (lZ m)] (mWd ad cs (mKof S T) rest) (fun v ws' => v = some (.int (iZ (oMon S d m).1)) ∧ ws' = mWd ad cs (mKof (oMon S d m).2 T) rest) mNo := by
  refine mCt.of (by decide +kernel) (Nat.le_of_ble_eq_true rfl) (fun X hX hE => ?_)
  replace hX : mOK X RX2 cX2_putMonths 9 ⟨4, 0, 0, 92⟩ [] (mTy cs) := hX
  have hr := zrg hS hd
  have hse := hS.2.2.2.1 d hd4
  have hsd : -21915 ≤ sse S d / 86400 ∧ sse S d / 86400 ≤ 22279 := by omega
  have hdom := DOM_b hsd.1 hsd.2
  have hdm := dm_b (YR (sse S d / 86400)) (MO (sse S d / 86400))
  refine r_lload_n hX dX2_putMonths_0 rfl rfl ?_
  refine r_ldc2Z (z := 12) hX kc_X2_140 (by decide) dX2_putMonths_1 ?_
  refine r_callS hX (z_J9_floorDiv _ _ _ _ (by omega) (by unfold zD; omega)) ks_X2_100 rfl rfl (Nat.le_of_ble_eq_true rfl) ⟨(Nat.le_of_ble_eq_true rfl), (Nat.le_of_ble_eq_true rfl)⟩ ⟨(Nat.le_of_ble_eq_true rfl), (Nat.le_of_ble_eq_true rfl)⟩ dX2_putMonths_4 (fun _ _ z => False.elim z) (fun v9 ws9 h1 => ?_)
  obtain ⟨rfl, hw9⟩ := h1
  subst ws9
  dsimp only [mPush]
  refine r_lstore hX dX2_putMonths_7 (by decide) rfl ?_
  refine r_lload hX dX2_putMonths_9 rfl ?_
  refine r_ldc2Z (z := 1910) hX kc_X2_116 (by decide) dX2_putMonths_11 ?_
  refine r_ldc2Z (z := 2030) hX kc_X2_118 (by decide) dX2_putMonths_14 ?_
  refine r_callS hX (z_X2_isWithin _ _ _ _ _ (by omega) (by omega) (by omega)) ks_X2_48 rfl rfl (Nat.le_of_ble_eq_true rfl) ⟨(Nat.le_of_ble_eq_true rfl), (Nat.le_of_ble_eq_true rfl)⟩ ⟨(Nat.le_of_ble_eq_true rfl), (Nat.le_of_ble_eq_true rfl)⟩ dX2_putMonths_17 (fun _ _ z => False.elim z) (fun v9 ws9 h2 => ?_)
  obtain ⟨rfl, hw9⟩ := h2
  subst ws9
  dsimp only [mPush]
  refine r_if_neB (tgt := 28) hX dX2_putMonths_20 (by decide) (fun c3 => ?_) (fun c3 => ?_)
  · have c3 := of_decide_eq_true c3
    refine r_lload_n hX dX2_putMonths_28 rfl rfl ?_
    refine r_ldc2Z (z := 12) hX kc_X2_140 (by decide) dX2_putMonths_29 ?_
    refine r_callS hX (z_J9_floorMod _ _ _ _ (by omega) (by unfold zD; omega)) ks_X2_277 rfl rfl (Nat.le_of_ble_eq_true rfl) ⟨(Nat.le_of_ble_eq_true rfl), (Nat.le_of_ble_eq_true rfl)⟩ ⟨(Nat.le_of_ble_eq_true rfl), (Nat.le_of_ble_eq_true rfl)⟩ dX2_putMonths_32 (fun _ _ z => False.elim z) (fun v9 ws9 h4 => ?_)
    obtain ⟨rfl, hw9⟩ := h4
    subst ws9
    dsimp only [mPush]
    refine r_l2iZ hX dX2_putMonths_35 ?_
    refine r_iconstZ hX dX2_putMonths_36 ?_
    refine r_iaddZ hX dX2_putMonths_37 ?_
    refine r_istore hX dX2_putMonths_38 (by decide) rfl ?_
    refine r_lload hX dX2_putMonths_40 rfl ?_
    refine r_l2iZ hX dX2_putMonths_42 ?_
    refine r_iload hX dX2_putMonths_43 rfl ?_
    refine r_callS hX (z_X0_lengthOfMonth _ _ _ ((m / 12)).toNat (by omega) (by omega) _ ((m % 12) + 1).toNat (by omega) (by omega)) ks_X2_308 rfl rfl (Nat.le_of_ble_eq_true rfl) ⟨(Nat.le_of_ble_eq_true rfl), (Nat.le_of_ble_eq_true rfl)⟩ ⟨(Nat.le_of_ble_eq_true rfl), (Nat.le_of_ble_eq_true rfl)⟩ dX2_putMonths_45 (fun _ _ z => False.elim z) (fun v9 ws9 h5 => ?_)
    obtain ⟨rfl, hw9⟩ := h5
    subst ws9
    dsimp only [mPush]
    refine r_istore hX dX2_putMonths_48 (by decide) rfl ?_
    refine r_aload_n hX dX2_putMonths_50 rfl rfl ?_
    refine r_callV hX (z_X1_day _ _ (d + 5) _ _ _ _ (zWd_loc (d := d) hd) (zrg hS hd)) kv_X2_274 (d + 5) (zWd_loc (d := d) hd) rfl rfl rfl (Nat.le_of_ble_eq_true rfl) ⟨(Nat.le_of_ble_eq_true rfl), (Nat.le_of_ble_eq_true rfl)⟩ ⟨(Nat.le_of_ble_eq_true rfl), (Nat.le_of_ble_eq_true rfl)⟩ dX2_putMonths_51 (fun _ _ z => False.elim z) (fun v9 ws9 h6 => ?_)
    obtain ⟨rfl, hw9⟩ := h6
    subst ws9
    dsimp only [mPush]
    refine r_callS hX (z_X0_dayOfMonth _ _ _ (by omega)) ks_X2_311 rfl rfl (Nat.le_of_ble_eq_true rfl) ⟨(Nat.le_of_ble_eq_true rfl), (Nat.le_of_ble_eq_true rfl)⟩ ⟨(Nat.le_of_ble_eq_true rfl), (Nat.le_of_ble_eq_true rfl)⟩ dX2_putMonths_54 (fun _ _ z => False.elim z) (fun v9 ws9 h7 => ?_)
    obtain ⟨rfl, hw9⟩ := h7
    subst ws9
    dsimp only [mPush]
    refine r_iload hX dX2_putMonths_57 rfl ?_
    have hdm2 := dm_b (m / 12).toNat (m % 12 + 1).toNat
    refine r_callS hX (z_J9_min _ _ _ _ (by omega) (by omega)) ks_X2_314 rfl rfl (Nat.le_of_ble_eq_true rfl) ⟨(Nat.le_of_ble_eq_true rfl), (Nat.le_of_ble_eq_true rfl)⟩ ⟨(Nat.le_of_ble_eq_true rfl), (Nat.le_of_ble_eq_true rfl)⟩ dX2_putMonths_59 (fun _ _ z => False.elim z) (fun v9 ws9 h8 => ?_)
    obtain ⟨rfl, hw9⟩ := h8
    subst ws9
    dsimp only [mPush]
    refine r_istore hX dX2_putMonths_62 (by decide) rfl ?_
    refine r_aload_n hX dX2_putMonths_64 rfl rfl ?_
    refine r_aload_n hX dX2_putMonths_65 rfl rfl ?_
    refine r_lload hX dX2_putMonths_66 rfl ?_
    refine r_l2iZ hX dX2_putMonths_68 ?_
    refine r_iload hX dX2_putMonths_69 rfl ?_
    refine r_iload hX dX2_putMonths_71 rfl ?_
    refine r_callS hX (z_X0_dayOf _ _ _ ((m / 12)).toNat (by omega) (by omega) _ ((m % 12) + 1).toNat (by omega) (by omega) _) ks_X2_126 rfl rfl (Nat.le_of_ble_eq_true rfl) ⟨(Nat.le_of_ble_eq_true rfl), (Nat.le_of_ble_eq_true rfl)⟩ ⟨(Nat.le_of_ble_eq_true rfl), (Nat.le_of_ble_eq_true rfl)⟩ dX2_putMonths_73 (fun _ _ z => False.elim z) (fun v9 ws9 h9 => ?_)
    obtain ⟨rfl, hw9⟩ := h9
    subst ws9
    dsimp only [mPush]
    have hfo := FO_b (y := (m / 12).toNat) (by omega)
    have hdb := DB_b (y := (m / 12).toNat) (m := (m % 12 + 1).toNat) (by omega)
    have hmin : 1 ≤ zMin (DOM (sse S d / 86400)) (dm (m / 12).toNat (m % 12 + 1).toNat : Nat) ∧ zMin (DOM (sse S d / 86400)) (dm (m / 12).toNat (m % 12 + 1).toNat : Nat) ≤ 31 := by unfold zMin; split <;> omega
    refine r_callV hX (z_X2_putDay ad cs S T rest hS d hd _ (by omega)) kv_X2_317 0 rfl rfl rfl rfl (Nat.le_of_ble_eq_true rfl) ⟨(Nat.le_of_ble_eq_true rfl), (Nat.le_of_ble_eq_true rfl)⟩ ⟨(Nat.le_of_ble_eq_true rfl), (Nat.le_of_ble_eq_true rfl)⟩ dX2_putMonths_76 (fun _ _ z => False.elim z) (fun v9 ws9 h10 => ?_)
    obtain ⟨rfl, hw9⟩ := h10
    subst ws9
    dsimp only [mPush]
    refine r_iret hX hE dX2_putMonths_79 (Nat.le_of_ble_eq_true rfl) (Nat.le_of_ble_eq_true rfl) ?_
    unfold oMon
    rw [if_pos (by assumption)]
    exact ⟨rfl, rfl⟩
  · have c3 := of_decide_eq_false c3
    refine r_aload_n hX dX2_putMonths_23 rfl rfl ?_
    refine r_callV hX (z_X2_refused ad cs S T rest) kv_X2_56 0 rfl rfl rfl rfl (Nat.le_of_ble_eq_true rfl) ⟨(Nat.le_of_ble_eq_true rfl), (Nat.le_of_ble_eq_true rfl)⟩ ⟨(Nat.le_of_ble_eq_true rfl), (Nat.le_of_ble_eq_true rfl)⟩ dX2_putMonths_24 (fun _ _ z => False.elim z) (fun v9 ws9 h11 => ?_)
    obtain ⟨rfl, hw9⟩ := h11
    subst ws9
    dsimp only [mPush]
    refine r_iret hX hE dX2_putMonths_27 (Nat.le_of_ble_eq_true rfl) (Nat.le_of_ble_eq_true rfl) ?_
    unfold oMon
    rw [if_neg (by assumption)]
    exact ⟨rfl, rfl⟩
def oPart (S : mS) (d : Nat) (num most now len : Int) : Int × mS := if 0 ≤ num ∧ num ≤ most then oLoc S d (sse S d + (num - now) * len) (sna S d) (sow S d) else (-9, sRf S)
def oTime (S : mS) (d : Nat) (f num : Int) : Int × mS := if f = 4 then oPart S d num 23 (sse S d % 86400 / 3600) 3600 else if f = 5 then oPart S d num 59 (sse S d % 86400 / 60 % 60) 60 else if f = 6 then oPart S d num 59 (sse S d % 86400 % 60) 1 else if 0 ≤ num ∧ num ≤ 999999999 then oLoc S d (sse S d) num (sow S d) else (-9, sRf S)
def oDay (S : mS) (d : Nat) (f num : Int) : Int × mS := if f = 0 then oMon S d (num * 12 + (MO (sse S d / 86400) : Nat) - 1) else if f = 1 then (if 1 ≤ num ∧ num ≤ 12 then oMon S d ((YR (sse S d / 86400) : Nat) * 12 + num - 1) else (-9, sRf S)) else if f = 2 then (if 1 ≤ num ∧ num ≤ (dm (YR (sse S d / 86400)) (MO (sse S d / 86400)) : Nat) then oLoc S d ((FO (YR (sse S d / 86400)) + DB (YR (sse S d / 86400)) (MO (sse S d / 86400)) + num - 1) * 86400 + sse S d % 86400) (sna S d) (sow S d) else (-9, sRf S)) else (if 1 ≤ num ∧ num ≤ (yl (YR (sse S d / 86400)) : Nat) then oLoc S d ((FO (YR (sse S d / 86400)) + num - 1) * 86400 + sse S d % 86400) (sna S d) (sow S d) else (-9, sRf S))
set_option maxHeartbeats 4000000 in
set_option maxRecDepth 20000 in
theorem z_X2_setPart (ad : Nat → Nat) (cs : ClassId × ClassId × ClassId) (S : mS) (T : mT2) (rest : va_W) (hS : sWF S) (d : Nat) (hd : d < 7) (hd4 : d < 4) (num : Int) (hnum : rJ num) (most now : Int) (hmost : 0 ≤ most ∧ most ≤ 59) (hnow : 0 ≤ now ∧ now ≤ 59) (len : Int) (hlen : len = 3600 ∨ len = 60 ∨ len = 1)  : mCt (mTy cs) yX2_setPart cX2_setPart 7 (some .int) ⟨3, 0, 0, 70⟩ [.ref (ad 0), .ref (ad (d + 5)), .int (iZ num), .int (iZ most), .int (iZ now), .long (lZ len)] (mWd ad cs (mKof S T) rest) (fun v ws' => v = some (.int (iZ (oPart S d num most now len).1)) ∧ ws' = mWd ad cs (mKof (oPart S d num most now len).2 T) rest) mNo := by
  refine mCt.of (by decide +kernel) (Nat.le_of_ble_eq_true rfl) (fun X hX hE => ?_)
  replace hX : mOK X RX2 cX2_setPart 7 ⟨3, 0, 0, 70⟩ [] (mTy cs) := hX
  have hr := zrg hS hd
  refine r_iload_n hX dX2_setPart_0 rfl rfl ?_
  refine r_i2lZ hX dX2_setPart_1 (by omega) ?_
  refine r_lconstZ (v := 0) hX dX2_setPart_2 rfl ?_
  refine r_iload_n hX dX2_setPart_3 rfl rfl ?_
  refine r_i2lZ hX dX2_setPart_4 (by omega) ?_
  refine r_callS hX (z_X2_isWithin _ _ _ _ _ (by omega) (by omega) (by omega)) ks_X2_48 rfl rfl (Nat.le_of_ble_eq_true rfl) ⟨(Nat.le_of_ble_eq_true rfl), (Nat.le_of_ble_eq_true rfl)⟩ ⟨(Nat.le_of_ble_eq_true rfl), (Nat.le_of_ble_eq_true rfl)⟩ dX2_setPart_5 (fun _ _ z => False.elim z) (fun v9 ws9 h1 => ?_)
  obtain ⟨rfl, hw9⟩ := h1
  subst ws9
  dsimp only [mPush]
  refine r_if_neB (tgt := 16) hX dX2_setPart_8 (by decide) (fun c2 => ?_) (fun c2 => ?_)
  · have c2 := of_decide_eq_true c2
    refine r_aload_n hX dX2_setPart_16 rfl rfl ?_
    refine r_aload_n hX dX2_setPart_17 rfl rfl ?_
    refine r_aload_n hX dX2_setPart_18 rfl rfl ?_
    refine r_getN hX kg_X2_146 (d + 5) (zWd_loc (d := d) hd) rfl dX2_setPart_19 ?_
    refine r_iload_n hX dX2_setPart_22 rfl rfl ?_
    refine r_iload hX dX2_setPart_23 rfl ?_
    have hmul : -300000 ≤ (num - now) * len ∧ (num - now) * len ≤ 300000 := by rcases hlen with rfl | rfl | rfl <;> omega
    refine r_isubZ hX dX2_setPart_25 ?_
    refine r_i2lZ hX dX2_setPart_26 (by omega) ?_
    refine r_lload hX dX2_setPart_27 rfl ?_
    refine r_lmulZ hX dX2_setPart_29 ?_
    refine r_laddZ hX dX2_setPart_30 ?_
    refine r_aload_n hX dX2_setPart_31 rfl rfl ?_
    refine r_getN hX kg_X2_172 (d + 5) (zWd_loc (d := d) hd) rfl dX2_setPart_32 ?_
    refine r_aload_n hX dX2_setPart_35 rfl rfl ?_
    refine r_getN hX kg_X2_158 (d + 5) (zWd_loc (d := d) hd) rfl dX2_setPart_36 ?_
    refine r_callV hX (z_X2_putLocal ad cs S T rest hS d hd _ _ _ (by omega) (by omega) (by omega)) kv_X2_132 0 rfl rfl rfl rfl (Nat.le_of_ble_eq_true rfl) ⟨(Nat.le_of_ble_eq_true rfl), (Nat.le_of_ble_eq_true rfl)⟩ ⟨(Nat.le_of_ble_eq_true rfl), (Nat.le_of_ble_eq_true rfl)⟩ dX2_setPart_39 (fun _ _ z => False.elim z) (fun v9 ws9 h3 => ?_)
    obtain ⟨rfl, hw9⟩ := h3
    subst ws9
    dsimp only [mPush]
    refine r_iret hX hE dX2_setPart_42 (Nat.le_of_ble_eq_true rfl) (Nat.le_of_ble_eq_true rfl) ?_
    unfold oPart
    rw [if_pos (by assumption)]
    exact ⟨rfl, rfl⟩
  · have c2 := of_decide_eq_false c2
    refine r_aload_n hX dX2_setPart_11 rfl rfl ?_
    refine r_callV hX (z_X2_refused ad cs S T rest) kv_X2_56 0 rfl rfl rfl rfl (Nat.le_of_ble_eq_true rfl) ⟨(Nat.le_of_ble_eq_true rfl), (Nat.le_of_ble_eq_true rfl)⟩ ⟨(Nat.le_of_ble_eq_true rfl), (Nat.le_of_ble_eq_true rfl)⟩ dX2_setPart_12 (fun _ _ z => False.elim z) (fun v9 ws9 h4 => ?_)
    obtain ⟨rfl, hw9⟩ := h4
    subst ws9
    dsimp only [mPush]
    refine r_iret hX hE dX2_setPart_15 (Nat.le_of_ble_eq_true rfl) (Nat.le_of_ble_eq_true rfl) ?_
    unfold oPart
    rw [if_neg (by assumption)]
    exact ⟨rfl, rfl⟩
set_option maxHeartbeats 4000000 in
set_option maxRecDepth 20000 in
theorem z_X2_setOfTime (ad : Nat → Nat) (cs : ClassId × ClassId × ClassId) (S : mS) (T : mT2) (rest : va_W) (hS : sWF S) (d : Nat) (hd : d < 7) (hd4 : d < 4) (f : Int) (hf : 4 ≤ f ∧ f ≤ 7) (num : Int) (hnum : rJ num)  : mCt (mTy cs) yX2_setOfTime cX2_setOfTime 4 (some .int) ⟨4, 0, 0, 96⟩ [.ref (ad 0), .ref (ad (d + 5)), .int (iZ f), .int (iZ num)] (mWd ad cs (mKof S T) rest) (fun v ws' => v = some (.int (iZ (oTime S d f num).1)) ∧ ws' = mWd ad cs (mKof (oTime S d f num).2 T) rest) mNo := by
  refine mCt.of (by decide +kernel) (Nat.le_of_ble_eq_true rfl) (fun X hX hE => ?_)
  replace hX : mOK X RX2 cX2_setOfTime 4 ⟨4, 0, 0, 96⟩ [] (mTy cs) := hX
  have hr := zrg hS hd
  refine r_iload_n hX dX2_setOfTime_0 rfl rfl ?_
  by_cases s1 : f = 4
  · refine r_tableInZ (z := 4) (off := 27) (tgt := 28) hX dX2_setOfTime_1 s1 (by decide) (by decide) (by decide) rfl (by decide) ?_
    refine r_aload_n hX dX2_setOfTime_28 rfl rfl ?_
    refine r_aload_n hX dX2_setOfTime_29 rfl rfl ?_
    refine r_iload_n hX dX2_setOfTime_30 rfl rfl ?_
    refine r_bipushZ hX dX2_setOfTime_31 (by decide) ?_
    refine r_aload_n hX dX2_setOfTime_33 rfl rfl ?_
    refine r_callV hX (z_X1_hour _ _ (d + 5) _ _ _ _ (zWd_loc (d := d) hd) (zrg hS hd)) kv_X2_335 (d + 5) (zWd_loc (d := d) hd) rfl rfl rfl (Nat.le_of_ble_eq_true rfl) ⟨(Nat.le_of_ble_eq_true rfl), (Nat.le_of_ble_eq_true rfl)⟩ ⟨(Nat.le_of_ble_eq_true rfl), (Nat.le_of_ble_eq_true rfl)⟩ dX2_setOfTime_34 (fun _ _ z => False.elim z) (fun v9 ws9 h2 => ?_)
    obtain ⟨rfl, hw9⟩ := h2
    subst ws9
    dsimp only [mPush]
    refine r_ldc2Z (z := 3600) hX kc_X2_304 (by decide) dX2_setOfTime_37 ?_
    refine r_callV hX (z_X2_setPart ad cs S T rest hS d hd (by omega) _ (by omega) _ _ (by omega) (by omega) _ (by omega)) kv_X2_338 0 rfl rfl rfl rfl (Nat.le_of_ble_eq_true rfl) ⟨(Nat.le_of_ble_eq_true rfl), (Nat.le_of_ble_eq_true rfl)⟩ ⟨(Nat.le_of_ble_eq_true rfl), (Nat.le_of_ble_eq_true rfl)⟩ dX2_setOfTime_40 (fun _ _ z => False.elim z) (fun v9 ws9 h3 => ?_)
    obtain ⟨rfl, hw9⟩ := h3
    subst ws9
    dsimp only [mPush]
    refine r_iret hX hE dX2_setOfTime_43 (Nat.le_of_ble_eq_true rfl) (Nat.le_of_ble_eq_true rfl) ?_
    unfold oTime
    rw [if_pos (by omega)]
    exact ⟨rfl, rfl⟩
  by_cases s4 : f = 5
  · refine r_tableInZ (z := 5) (off := 43) (tgt := 44) hX dX2_setOfTime_1 s4 (by decide) (by decide) (by decide) rfl (by decide) ?_
    refine r_aload_n hX dX2_setOfTime_44 rfl rfl ?_
    refine r_aload_n hX dX2_setOfTime_45 rfl rfl ?_
    refine r_iload_n hX dX2_setOfTime_46 rfl rfl ?_
    refine r_bipushZ hX dX2_setOfTime_47 (by decide) ?_
    refine r_aload_n hX dX2_setOfTime_49 rfl rfl ?_
    refine r_callV hX (z_X1_minute _ _ (d + 5) _ _ _ _ (zWd_loc (d := d) hd) (zrg hS hd)) kv_X2_342 (d + 5) (zWd_loc (d := d) hd) rfl rfl rfl (Nat.le_of_ble_eq_true rfl) ⟨(Nat.le_of_ble_eq_true rfl), (Nat.le_of_ble_eq_true rfl)⟩ ⟨(Nat.le_of_ble_eq_true rfl), (Nat.le_of_ble_eq_true rfl)⟩ dX2_setOfTime_50 (fun _ _ z => False.elim z) (fun v9 ws9 h5 => ?_)
    obtain ⟨rfl, hw9⟩ := h5
    subst ws9
    dsimp only [mPush]
    refine r_ldc2Z (z := 60) hX kc_X2_306 (by decide) dX2_setOfTime_53 ?_
    refine r_callV hX (z_X2_setPart ad cs S T rest hS d hd (by omega) _ (by omega) _ _ (by omega) (by omega) _ (by omega)) kv_X2_338 0 rfl rfl rfl rfl (Nat.le_of_ble_eq_true rfl) ⟨(Nat.le_of_ble_eq_true rfl), (Nat.le_of_ble_eq_true rfl)⟩ ⟨(Nat.le_of_ble_eq_true rfl), (Nat.le_of_ble_eq_true rfl)⟩ dX2_setOfTime_56 (fun _ _ z => False.elim z) (fun v9 ws9 h6 => ?_)
    obtain ⟨rfl, hw9⟩ := h6
    subst ws9
    dsimp only [mPush]
    refine r_iret hX hE dX2_setOfTime_59 (Nat.le_of_ble_eq_true rfl) (Nat.le_of_ble_eq_true rfl) ?_
    unfold oTime
    rw [if_neg (by omega)]
    rw [if_pos (by omega)]
    exact ⟨rfl, rfl⟩
  by_cases s7 : f = 6
  · refine r_tableInZ (z := 6) (off := 59) (tgt := 60) hX dX2_setOfTime_1 s7 (by decide) (by decide) (by decide) rfl (by decide) ?_
    refine r_aload_n hX dX2_setOfTime_60 rfl rfl ?_
    refine r_aload_n hX dX2_setOfTime_61 rfl rfl ?_
    refine r_iload_n hX dX2_setOfTime_62 rfl rfl ?_
    refine r_bipushZ hX dX2_setOfTime_63 (by decide) ?_
    refine r_aload_n hX dX2_setOfTime_65 rfl rfl ?_
    refine r_callV hX (z_X1_secondOfMinute _ _ (d + 5) _ _ _ _ (zWd_loc (d := d) hd) (zrg hS hd)) kv_X2_345 (d + 5) (zWd_loc (d := d) hd) rfl rfl rfl (Nat.le_of_ble_eq_true rfl) ⟨(Nat.le_of_ble_eq_true rfl), (Nat.le_of_ble_eq_true rfl)⟩ ⟨(Nat.le_of_ble_eq_true rfl), (Nat.le_of_ble_eq_true rfl)⟩ dX2_setOfTime_66 (fun _ _ z => False.elim z) (fun v9 ws9 h8 => ?_)
    obtain ⟨rfl, hw9⟩ := h8
    subst ws9
    dsimp only [mPush]
    refine r_lconstZ (v := 1) hX dX2_setOfTime_69 rfl ?_
    refine r_callV hX (z_X2_setPart ad cs S T rest hS d hd (by omega) _ (by omega) _ _ (by omega) (by omega) _ (by omega)) kv_X2_338 0 rfl rfl rfl rfl (Nat.le_of_ble_eq_true rfl) ⟨(Nat.le_of_ble_eq_true rfl), (Nat.le_of_ble_eq_true rfl)⟩ ⟨(Nat.le_of_ble_eq_true rfl), (Nat.le_of_ble_eq_true rfl)⟩ dX2_setOfTime_70 (fun _ _ z => False.elim z) (fun v9 ws9 h9 => ?_)
    obtain ⟨rfl, hw9⟩ := h9
    subst ws9
    dsimp only [mPush]
    refine r_iret hX hE dX2_setOfTime_73 (Nat.le_of_ble_eq_true rfl) (Nat.le_of_ble_eq_true rfl) ?_
    unfold oTime
    rw [if_neg (by omega)]
    rw [if_neg (by omega)]
    rw [if_pos (by omega)]
    exact ⟨rfl, rfl⟩
  refine r_tableOutZ (tgt := 74) hX dX2_setOfTime_1 (by omega) (by omega) (by decide) ?_
  refine r_iload_n hX dX2_setOfTime_74 rfl rfl ?_
  refine r_i2lZ hX dX2_setOfTime_75 (by omega) ?_
  refine r_lconstZ (v := 0) hX dX2_setOfTime_76 rfl ?_
  refine r_ldc2Z (z := 999999999) hX kc_X2_348 (by decide) dX2_setOfTime_77 ?_
  refine r_callS hX (z_X2_isWithin _ _ _ _ _ (by omega) (by omega) (by omega)) ks_X2_48 rfl rfl (Nat.le_of_ble_eq_true rfl) ⟨(Nat.le_of_ble_eq_true rfl), (Nat.le_of_ble_eq_true rfl)⟩ ⟨(Nat.le_of_ble_eq_true rfl), (Nat.le_of_ble_eq_true rfl)⟩ dX2_setOfTime_80 (fun _ _ z => False.elim z) (fun v9 ws9 h10 => ?_)
  obtain ⟨rfl, hw9⟩ := h10
  subst ws9
  dsimp only [mPush]
  refine r_if_eqB (tgt := 103) hX dX2_setOfTime_83 (by decide) (fun c11 => ?_) (fun c11 => ?_)
  · have c11 := of_decide_eq_false c11
    refine r_aload_n hX dX2_setOfTime_103 rfl rfl ?_
    refine r_callV hX (z_X2_refused ad cs S T rest) kv_X2_56 0 rfl rfl rfl rfl (Nat.le_of_ble_eq_true rfl) ⟨(Nat.le_of_ble_eq_true rfl), (Nat.le_of_ble_eq_true rfl)⟩ ⟨(Nat.le_of_ble_eq_true rfl), (Nat.le_of_ble_eq_true rfl)⟩ dX2_setOfTime_104 (fun _ _ z => False.elim z) (fun v9 ws9 h12 => ?_)
    obtain ⟨rfl, hw9⟩ := h12
    subst ws9
    dsimp only [mPush]
    refine r_iret hX hE dX2_setOfTime_107 (Nat.le_of_ble_eq_true rfl) (Nat.le_of_ble_eq_true rfl) ?_
    unfold oTime
    rw [if_neg (by omega)]
    rw [if_neg (by omega)]
    rw [if_neg (by omega)]
    rw [if_neg (by assumption)]
    exact ⟨rfl, rfl⟩
  · have c11 := of_decide_eq_true c11
    refine r_aload_n hX dX2_setOfTime_86 rfl rfl ?_
    refine r_aload_n hX dX2_setOfTime_87 rfl rfl ?_
    refine r_aload_n hX dX2_setOfTime_88 rfl rfl ?_
    refine r_getN hX kg_X2_146 (d + 5) (zWd_loc (d := d) hd) rfl dX2_setOfTime_89 ?_
    refine r_iload_n hX dX2_setOfTime_92 rfl rfl ?_
    refine r_aload_n hX dX2_setOfTime_93 rfl rfl ?_
    refine r_getN hX kg_X2_158 (d + 5) (zWd_loc (d := d) hd) rfl dX2_setOfTime_94 ?_
    refine r_callV hX (z_X2_putLocal ad cs S T rest hS d hd _ _ _ (by omega) (by omega) (by omega)) kv_X2_132 0 rfl rfl rfl rfl (Nat.le_of_ble_eq_true rfl) ⟨(Nat.le_of_ble_eq_true rfl), (Nat.le_of_ble_eq_true rfl)⟩ ⟨(Nat.le_of_ble_eq_true rfl), (Nat.le_of_ble_eq_true rfl)⟩ dX2_setOfTime_97 (fun _ _ z => False.elim z) (fun v9 ws9 h13 => ?_)
    obtain ⟨rfl, hw9⟩ := h13
    subst ws9
    dsimp only [mPush]
    refine r_goto (tgt := 107) hX dX2_setOfTime_100 (by decide) ?_
    refine r_iret hX hE dX2_setOfTime_107 (Nat.le_of_ble_eq_true rfl) (Nat.le_of_ble_eq_true rfl) ?_
    unfold oTime
    rw [if_neg (by omega)]
    rw [if_neg (by omega)]
    rw [if_neg (by omega)]
    rw [if_pos (by assumption)]
    exact ⟨rfl, rfl⟩
set_option maxHeartbeats 4000000 in
set_option maxRecDepth 20000 in
theorem z_X2_setOfDay (ad : Nat → Nat) (cs : ClassId × ClassId × ClassId) (S : mS) (T : mT2) (rest : va_W) (hS : sWF S) (d : Nat) (hd : d < 7) (hd4 : d < 4) (f : Int) (hf : 0 ≤ f ∧ f ≤ 3) (num : Int) (hnum : rJ num)  : mCt (mTy cs) yX2_setOfDay cX2_setOfDay 6 (some .int) ⟨5, 0, 0, 120⟩ [.ref (ad 0), .ref (ad (d + 5)), .int (iZ f), .int (iZ num)] (mWd ad cs (mKof S T) rest) (fun v ws' => v = some (.int (iZ (oDay S d f num).1)) ∧ ws' = mWd ad cs (mKof (oDay S d f num).2 T) rest) mNo := by
  refine mCt.of (by decide +kernel) (Nat.le_of_ble_eq_true rfl) (fun X hX hE => ?_)
  replace hX : mOK X RX2 cX2_setOfDay 6 ⟨5, 0, 0, 120⟩ [] (mTy cs) := hX
  have hr := zrg hS hd
  have hse := hS.2.2.2.1 d hd4
  have hsd : -21915 ≤ sse S d / 86400 ∧ sse S d / 86400 ≤ 22279 := by omega
  have hdom := DOM_b hsd.1 hsd.2
  have hdm := dm_b (YR (sse S d / 86400)) (MO (sse S d / 86400))
  have hmo := MO_b (sse S d / 86400)
  have hyr := YR_spec hsd.1 hsd.2
  have hfo := FO_b (y := YR (sse S d / 86400)) (by omega)
  have hdb := DB_b (y := YR (sse S d / 86400)) (m := MO (sse S d / 86400)) (by omega)
  have hyl := yl_b (YR (sse S d / 86400))
  refine r_aload_n hX dX2_setOfDay_0 rfl rfl ?_
  refine r_callV hX (z_X1_day _ _ (d + 5) _ _ _ _ (zWd_loc (d := d) hd) (zrg hS hd)) kv_X2_274 (d + 5) (zWd_loc (d := d) hd) rfl rfl rfl (Nat.le_of_ble_eq_true rfl) ⟨(Nat.le_of_ble_eq_true rfl), (Nat.le_of_ble_eq_true rfl)⟩ ⟨(Nat.le_of_ble_eq_true rfl), (Nat.le_of_ble_eq_true rfl)⟩ dX2_setOfDay_1 (fun _ _ z => False.elim z) (fun v9 ws9 h1 => ?_)
  obtain ⟨rfl, hw9⟩ := h1
  subst ws9
  dsimp only [mPush]
  refine r_callS hX (z_X0_yearOf _ _ _ (by omega)) ks_X2_323 rfl rfl (Nat.le_of_ble_eq_true rfl) ⟨(Nat.le_of_ble_eq_true rfl), (Nat.le_of_ble_eq_true rfl)⟩ ⟨(Nat.le_of_ble_eq_true rfl), (Nat.le_of_ble_eq_true rfl)⟩ dX2_setOfDay_4 (fun _ _ z => False.elim z) (fun v9 ws9 h2 => ?_)
  obtain ⟨rfl, hw9⟩ := h2
  subst ws9
  dsimp only [mPush]
  refine r_istore hX dX2_setOfDay_7 (by decide) rfl ?_
  refine r_aload_n hX dX2_setOfDay_9 rfl rfl ?_
  refine r_callV hX (z_X1_day _ _ (d + 5) _ _ _ _ (zWd_loc (d := d) hd) (zrg hS hd)) kv_X2_274 (d + 5) (zWd_loc (d := d) hd) rfl rfl rfl (Nat.le_of_ble_eq_true rfl) ⟨(Nat.le_of_ble_eq_true rfl), (Nat.le_of_ble_eq_true rfl)⟩ ⟨(Nat.le_of_ble_eq_true rfl), (Nat.le_of_ble_eq_true rfl)⟩ dX2_setOfDay_10 (fun _ _ z => False.elim z) (fun v9 ws9 h3 => ?_)
  obtain ⟨rfl, hw9⟩ := h3
  subst ws9
  dsimp only [mPush]
  refine r_callS hX (z_X0_monthOf _ _ _ (by omega)) ks_X2_326 rfl rfl (Nat.le_of_ble_eq_true rfl) ⟨(Nat.le_of_ble_eq_true rfl), (Nat.le_of_ble_eq_true rfl)⟩ ⟨(Nat.le_of_ble_eq_true rfl), (Nat.le_of_ble_eq_true rfl)⟩ dX2_setOfDay_13 (fun _ _ z => False.elim z) (fun v9 ws9 h4 => ?_)
  obtain ⟨rfl, hw9⟩ := h4
  subst ws9
  dsimp only [mPush]
  refine r_istore hX dX2_setOfDay_16 (by decide) rfl ?_
  refine r_iload_n hX dX2_setOfDay_18 rfl rfl ?_
  by_cases s5 : f = 0
  · refine r_tableInZ (z := 0) (off := 25) (tgt := 44) hX dX2_setOfDay_19 s5 (by decide) (by decide) (by decide) rfl (by decide) ?_
    refine r_aload_n hX dX2_setOfDay_44 rfl rfl ?_
    refine r_aload_n hX dX2_setOfDay_45 rfl rfl ?_
    refine r_iload_n hX dX2_setOfDay_46 rfl rfl ?_
    refine r_i2lZ hX dX2_setOfDay_47 (by omega) ?_
    refine r_ldc2Z (z := 12) hX kc_X2_140 (by decide) dX2_setOfDay_48 ?_
    refine r_lmulZ hX dX2_setOfDay_51 ?_
    refine r_iload hX dX2_setOfDay_52 rfl ?_
    refine r_i2lZ hX dX2_setOfDay_54 (by omega) ?_
    refine r_laddZ hX dX2_setOfDay_55 ?_
    refine r_lconstZ (v := 1) hX dX2_setOfDay_56 rfl ?_
    refine r_lsubZ hX dX2_setOfDay_57 ?_
    refine r_callV hX (z_X2_putMonths ad cs S T rest hS d hd (by omega) _ (by omega)) kv_X2_142 0 rfl rfl rfl rfl (Nat.le_of_ble_eq_true rfl) ⟨(Nat.le_of_ble_eq_true rfl), (Nat.le_of_ble_eq_true rfl)⟩ ⟨(Nat.le_of_ble_eq_true rfl), (Nat.le_of_ble_eq_true rfl)⟩ dX2_setOfDay_58 (fun _ _ z => False.elim z) (fun v9 ws9 h6 => ?_)
    obtain ⟨rfl, hw9⟩ := h6
    subst ws9
    dsimp only [mPush]
    refine r_iret hX hE dX2_setOfDay_61 (Nat.le_of_ble_eq_true rfl) (Nat.le_of_ble_eq_true rfl) ?_
    unfold oDay
    rw [if_pos (by omega)]
    exact ⟨rfl, rfl⟩
  by_cases s7 : f = 1
  · refine r_tableInZ (z := 1) (off := 43) (tgt := 62) hX dX2_setOfDay_19 s7 (by decide) (by decide) (by decide) rfl (by decide) ?_
    refine r_iload_n hX dX2_setOfDay_62 rfl rfl ?_
    refine r_i2lZ hX dX2_setOfDay_63 (by omega) ?_
    refine r_lconstZ (v := 1) hX dX2_setOfDay_64 rfl ?_
    refine r_ldc2Z (z := 12) hX kc_X2_140 (by decide) dX2_setOfDay_65 ?_
    refine r_callS hX (z_X2_isWithin _ _ _ _ _ (by omega) (by omega) (by omega)) ks_X2_48 rfl rfl (Nat.le_of_ble_eq_true rfl) ⟨(Nat.le_of_ble_eq_true rfl), (Nat.le_of_ble_eq_true rfl)⟩ ⟨(Nat.le_of_ble_eq_true rfl), (Nat.le_of_ble_eq_true rfl)⟩ dX2_setOfDay_68 (fun _ _ z => False.elim z) (fun v9 ws9 h8 => ?_)
    obtain ⟨rfl, hw9⟩ := h8
    subst ws9
    dsimp only [mPush]
    refine r_if_eqB (tgt := 94) hX dX2_setOfDay_71 (by decide) (fun c9 => ?_) (fun c9 => ?_)
    · have c9 := of_decide_eq_false c9
      refine r_aload_n hX dX2_setOfDay_94 rfl rfl ?_
      refine r_callV hX (z_X2_refused ad cs S T rest) kv_X2_56 0 rfl rfl rfl rfl (Nat.le_of_ble_eq_true rfl) ⟨(Nat.le_of_ble_eq_true rfl), (Nat.le_of_ble_eq_true rfl)⟩ ⟨(Nat.le_of_ble_eq_true rfl), (Nat.le_of_ble_eq_true rfl)⟩ dX2_setOfDay_95 (fun _ _ z => False.elim z) (fun v9 ws9 h10 => ?_)
      obtain ⟨rfl, hw9⟩ := h10
      subst ws9
      dsimp only [mPush]
      refine r_iret hX hE dX2_setOfDay_98 (Nat.le_of_ble_eq_true rfl) (Nat.le_of_ble_eq_true rfl) ?_
      unfold oDay
      rw [if_neg (by omega)]
      rw [if_pos (by omega)]
      rw [if_neg (by assumption)]
      exact ⟨rfl, rfl⟩
    · have c9 := of_decide_eq_true c9
      refine r_aload_n hX dX2_setOfDay_74 rfl rfl ?_
      refine r_aload_n hX dX2_setOfDay_75 rfl rfl ?_
      refine r_iload hX dX2_setOfDay_76 rfl ?_
      refine r_i2lZ hX dX2_setOfDay_78 (by omega) ?_
      refine r_ldc2Z (z := 12) hX kc_X2_140 (by decide) dX2_setOfDay_79 ?_
      refine r_lmulZ hX dX2_setOfDay_82 ?_
      refine r_iload_n hX dX2_setOfDay_83 rfl rfl ?_
      refine r_i2lZ hX dX2_setOfDay_84 (by omega) ?_
      refine r_laddZ hX dX2_setOfDay_85 ?_
      refine r_lconstZ (v := 1) hX dX2_setOfDay_86 rfl ?_
      refine r_lsubZ hX dX2_setOfDay_87 ?_
      refine r_callV hX (z_X2_putMonths ad cs S T rest hS d hd (by omega) _ (by omega)) kv_X2_142 0 rfl rfl rfl rfl (Nat.le_of_ble_eq_true rfl) ⟨(Nat.le_of_ble_eq_true rfl), (Nat.le_of_ble_eq_true rfl)⟩ ⟨(Nat.le_of_ble_eq_true rfl), (Nat.le_of_ble_eq_true rfl)⟩ dX2_setOfDay_88 (fun _ _ z => False.elim z) (fun v9 ws9 h11 => ?_)
      obtain ⟨rfl, hw9⟩ := h11
      subst ws9
      dsimp only [mPush]
      refine r_goto (tgt := 98) hX dX2_setOfDay_91 (by decide) ?_
      refine r_iret hX hE dX2_setOfDay_98 (Nat.le_of_ble_eq_true rfl) (Nat.le_of_ble_eq_true rfl) ?_
      unfold oDay
      rw [if_neg (by omega)]
      rw [if_pos (by omega)]
      rw [if_pos (by assumption)]
      exact ⟨rfl, rfl⟩
  by_cases s12 : f = 2
  · refine r_tableInZ (z := 2) (off := 80) (tgt := 99) hX dX2_setOfDay_19 s12 (by decide) (by decide) (by decide) rfl (by decide) ?_
    refine r_iload_n hX dX2_setOfDay_99 rfl rfl ?_
    refine r_i2lZ hX dX2_setOfDay_100 (by omega) ?_
    refine r_lconstZ (v := 1) hX dX2_setOfDay_101 rfl ?_
    refine r_iload hX dX2_setOfDay_102 rfl ?_
    refine r_iload hX dX2_setOfDay_104 rfl ?_
    refine r_callS hX (z_X0_lengthOfMonth _ _ _ (YR ((sse S d) / 86400)) (by omega) (by omega) _ (MO ((sse S d) / 86400)) (by omega) (by omega)) ks_X2_308 rfl rfl (Nat.le_of_ble_eq_true rfl) ⟨(Nat.le_of_ble_eq_true rfl), (Nat.le_of_ble_eq_true rfl)⟩ ⟨(Nat.le_of_ble_eq_true rfl), (Nat.le_of_ble_eq_true rfl)⟩ dX2_setOfDay_106 (fun _ _ z => False.elim z) (fun v9 ws9 h13 => ?_)
    obtain ⟨rfl, hw9⟩ := h13
    subst ws9
    dsimp only [mPush]
    refine r_i2lZ hX dX2_setOfDay_109 (by omega) ?_
    refine r_callS hX (z_X2_isWithin _ _ _ _ _ (by omega) (by omega) (by omega)) ks_X2_48 rfl rfl (Nat.le_of_ble_eq_true rfl) ⟨(Nat.le_of_ble_eq_true rfl), (Nat.le_of_ble_eq_true rfl)⟩ ⟨(Nat.le_of_ble_eq_true rfl), (Nat.le_of_ble_eq_true rfl)⟩ dX2_setOfDay_110 (fun _ _ z => False.elim z) (fun v9 ws9 h14 => ?_)
    obtain ⟨rfl, hw9⟩ := h14
    subst ws9
    dsimp only [mPush]
    refine r_if_eqB (tgt := 132) hX dX2_setOfDay_113 (by decide) (fun c15 => ?_) (fun c15 => ?_)
    · have c15 := of_decide_eq_false c15
      refine r_aload_n hX dX2_setOfDay_132 rfl rfl ?_
      refine r_callV hX (z_X2_refused ad cs S T rest) kv_X2_56 0 rfl rfl rfl rfl (Nat.le_of_ble_eq_true rfl) ⟨(Nat.le_of_ble_eq_true rfl), (Nat.le_of_ble_eq_true rfl)⟩ ⟨(Nat.le_of_ble_eq_true rfl), (Nat.le_of_ble_eq_true rfl)⟩ dX2_setOfDay_133 (fun _ _ z => False.elim z) (fun v9 ws9 h16 => ?_)
      obtain ⟨rfl, hw9⟩ := h16
      subst ws9
      dsimp only [mPush]
      refine r_iret hX hE dX2_setOfDay_136 (Nat.le_of_ble_eq_true rfl) (Nat.le_of_ble_eq_true rfl) ?_
      unfold oDay
      rw [if_neg (by omega)]
      rw [if_neg (by omega)]
      rw [if_pos (by omega)]
      rw [if_neg (by assumption)]
      exact ⟨rfl, rfl⟩
    · have c15 := of_decide_eq_true c15
      refine r_aload_n hX dX2_setOfDay_116 rfl rfl ?_
      refine r_aload_n hX dX2_setOfDay_117 rfl rfl ?_
      refine r_iload hX dX2_setOfDay_118 rfl ?_
      refine r_iload hX dX2_setOfDay_120 rfl ?_
      refine r_iload_n hX dX2_setOfDay_122 rfl rfl ?_
      refine r_callS hX (z_X0_dayOf _ _ _ (YR ((sse S d) / 86400)) (by omega) (by omega) _ (MO ((sse S d) / 86400)) (by omega) (by omega) _) ks_X2_126 rfl rfl (Nat.le_of_ble_eq_true rfl) ⟨(Nat.le_of_ble_eq_true rfl), (Nat.le_of_ble_eq_true rfl)⟩ ⟨(Nat.le_of_ble_eq_true rfl), (Nat.le_of_ble_eq_true rfl)⟩ dX2_setOfDay_123 (fun _ _ z => False.elim z) (fun v9 ws9 h17 => ?_)
      obtain ⟨rfl, hw9⟩ := h17
      subst ws9
      dsimp only [mPush]
      refine r_callV hX (z_X2_putDay ad cs S T rest hS d hd _ (by omega)) kv_X2_317 0 rfl rfl rfl rfl (Nat.le_of_ble_eq_true rfl) ⟨(Nat.le_of_ble_eq_true rfl), (Nat.le_of_ble_eq_true rfl)⟩ ⟨(Nat.le_of_ble_eq_true rfl), (Nat.le_of_ble_eq_true rfl)⟩ dX2_setOfDay_126 (fun _ _ z => False.elim z) (fun v9 ws9 h18 => ?_)
      obtain ⟨rfl, hw9⟩ := h18
      subst ws9
      dsimp only [mPush]
      refine r_goto (tgt := 136) hX dX2_setOfDay_129 (by decide) ?_
      refine r_iret hX hE dX2_setOfDay_136 (Nat.le_of_ble_eq_true rfl) (Nat.le_of_ble_eq_true rfl) ?_
      unfold oDay
      rw [if_neg (by omega)]
      rw [if_neg (by omega)]
      rw [if_pos (by omega)]
      rw [if_pos (by assumption)]
      exact ⟨rfl, rfl⟩
  refine r_tableOutZ (tgt := 137) hX dX2_setOfDay_19 (by omega) (by omega) (by decide) ?_
  refine r_iload_n hX dX2_setOfDay_137 rfl rfl ?_
  refine r_i2lZ hX dX2_setOfDay_138 (by omega) ?_
  refine r_lconstZ (v := 1) hX dX2_setOfDay_139 rfl ?_
  refine r_iload hX dX2_setOfDay_140 rfl ?_
  refine r_callS hX (z_X0_lengthOfYear _ _ _ (YR ((sse S d) / 86400)) (by omega) (by omega)) ks_X2_329 rfl rfl (Nat.le_of_ble_eq_true rfl) ⟨(Nat.le_of_ble_eq_true rfl), (Nat.le_of_ble_eq_true rfl)⟩ ⟨(Nat.le_of_ble_eq_true rfl), (Nat.le_of_ble_eq_true rfl)⟩ dX2_setOfDay_142 (fun _ _ z => False.elim z) (fun v9 ws9 h19 => ?_)
  obtain ⟨rfl, hw9⟩ := h19
  subst ws9
  dsimp only [mPush]
  refine r_i2lZ hX dX2_setOfDay_145 (by omega) ?_
  refine r_callS hX (z_X2_isWithin _ _ _ _ _ (by omega) (by omega) (by omega)) ks_X2_48 rfl rfl (Nat.le_of_ble_eq_true rfl) ⟨(Nat.le_of_ble_eq_true rfl), (Nat.le_of_ble_eq_true rfl)⟩ ⟨(Nat.le_of_ble_eq_true rfl), (Nat.le_of_ble_eq_true rfl)⟩ dX2_setOfDay_146 (fun _ _ z => False.elim z) (fun v9 ws9 h20 => ?_)
  obtain ⟨rfl, hw9⟩ := h20
  subst ws9
  dsimp only [mPush]
  refine r_if_eqB (tgt := 169) hX dX2_setOfDay_149 (by decide) (fun c21 => ?_) (fun c21 => ?_)
  · have c21 := of_decide_eq_false c21
    refine r_aload_n hX dX2_setOfDay_169 rfl rfl ?_
    refine r_callV hX (z_X2_refused ad cs S T rest) kv_X2_56 0 rfl rfl rfl rfl (Nat.le_of_ble_eq_true rfl) ⟨(Nat.le_of_ble_eq_true rfl), (Nat.le_of_ble_eq_true rfl)⟩ ⟨(Nat.le_of_ble_eq_true rfl), (Nat.le_of_ble_eq_true rfl)⟩ dX2_setOfDay_170 (fun _ _ z => False.elim z) (fun v9 ws9 h22 => ?_)
    obtain ⟨rfl, hw9⟩ := h22
    subst ws9
    dsimp only [mPush]
    refine r_iret hX hE dX2_setOfDay_173 (Nat.le_of_ble_eq_true rfl) (Nat.le_of_ble_eq_true rfl) ?_
    unfold oDay
    rw [if_neg (by omega)]
    rw [if_neg (by omega)]
    rw [if_neg (by omega)]
    rw [if_neg (by assumption)]
    exact ⟨rfl, rfl⟩
  · have c21 := of_decide_eq_true c21
    refine r_aload_n hX dX2_setOfDay_152 rfl rfl ?_
    refine r_aload_n hX dX2_setOfDay_153 rfl rfl ?_
    refine r_iload hX dX2_setOfDay_154 rfl ?_
    refine r_callS hX (z_X0_firstDayOf _ _ _ (YR ((sse S d) / 86400)) (by omega) (by omega)) ks_X2_332 rfl rfl (Nat.le_of_ble_eq_true rfl) ⟨(Nat.le_of_ble_eq_true rfl), (Nat.le_of_ble_eq_true rfl)⟩ ⟨(Nat.le_of_ble_eq_true rfl), (Nat.le_of_ble_eq_true rfl)⟩ dX2_setOfDay_156 (fun _ _ z => False.elim z) (fun v9 ws9 h23 => ?_)
    obtain ⟨rfl, hw9⟩ := h23
    subst ws9
    dsimp only [mPush]
    refine r_iload_n hX dX2_setOfDay_159 rfl rfl ?_
    refine r_iaddZ hX dX2_setOfDay_160 ?_
    refine r_iconstZ hX dX2_setOfDay_161 ?_
    refine r_isubZ hX dX2_setOfDay_162 ?_
    refine r_callV hX (z_X2_putDay ad cs S T rest hS d hd _ (by omega)) kv_X2_317 0 rfl rfl rfl rfl (Nat.le_of_ble_eq_true rfl) ⟨(Nat.le_of_ble_eq_true rfl), (Nat.le_of_ble_eq_true rfl)⟩ ⟨(Nat.le_of_ble_eq_true rfl), (Nat.le_of_ble_eq_true rfl)⟩ dX2_setOfDay_163 (fun _ _ z => False.elim z) (fun v9 ws9 h24 => ?_)
    obtain ⟨rfl, hw9⟩ := h24
    subst ws9
    dsimp only [mPush]
    refine r_goto (tgt := 173) hX dX2_setOfDay_166 (by decide) ?_
    refine r_iret hX hE dX2_setOfDay_173 (Nat.le_of_ble_eq_true rfl) (Nat.le_of_ble_eq_true rfl) ?_
    unfold oDay
    rw [if_neg (by omega)]
    rw [if_neg (by omega)]
    rw [if_neg (by omega)]
    rw [if_pos (by assumption)]
    exact ⟨rfl, rfl⟩

