/-! The class, exact (rows by a program of this repository). -/
theorem z_X2_refused (ad : Nat → Nat) (cs : ClassId × ClassId × ClassId) (S : mS) (T : mT2) (rest : va_W) : mCt (mTy cs) yX2_refused cX2_refused 1 (some .int) ⟨0, 0, 0, 0⟩ [.ref (ad 0)] (mWd ad cs (mKof S T) rest) (fun v ws' => v = some (.int (iZ (-9))) ∧ ws' = mWd ad cs (mKof (sRf S) T) rest) mNo :=
  c_X2_refused_x ad cs (mKof S T) rest
theorem z_X2_seconds (ad : Nat → Nat) (cs : ClassId × ClassId × ClassId) (S : mS) (T : mT2) (rest : va_W) (hS : sWF S) (a : Int) (ha : rJ a) : mCt (mTy cs) yX2_seconds cX2_seconds 2 (some .int) ⟨7, 1, 6, 103⟩ [.ref (ad 0), .int (iZ a)] (mWd ad cs (mKof S T) rest) (fun v ws' => (0 ≤ a ∧ a < 4) ∧ v = some (.int (iZ (sof S a.toNat))) ∧ ws' = mWd ad cs (mKof S T) rest) (fun E ws' => E = xI ∧ ws' = mWd ad cs (mKof S T) rest ∧ ¬ (0 ≤ a ∧ a < 4)) := by
  refine (c_X2_seconds ad cs (mKof S T) rest (iZ a)).mono (fun v w h => ?_) (fun E w h => ?_)
  · obtain ⟨j, h1, h2, h3, h4⟩ := h
    have h5 := (iZ_in (N := 4) ha (by decide)).mpr ⟨j, h1, h2⟩
    rw [iZ_nI, iZ_inj ha (by omega)] at h2
    exact ⟨h5, by rw [h3, show a.toNat = j by omega]; rfl, h4⟩
  · exact ⟨h.1, h.2.1, fun q => h.2.2 ((vp_in_Zi (N := 4) ha).mpr q)⟩
theorem z_X2_seconds_ok (ad : Nat → Nat) (cs : ClassId × ClassId × ClassId) (S : mS) (T : mT2) (rest : va_W) (hS : sWF S) (a : Int) (j : Nat) (hj : a = (j : Int)) (h4 : j < 4) : mCt (mTy cs) yX2_seconds cX2_seconds 2 (some .int) ⟨1, 0, 0, 21⟩ [.ref (ad 0), .int (iZ a)] (mWd ad cs (mKof S T) rest) (fun v ws' => v = some (.int (iZ (sof S j))) ∧ ws' = mWd ad cs (mKof S T) rest) mNo := by
  rw [hj, ← iZ_nI]
  exact c_X2_seconds_ok ad cs (mKof S T) rest j h4
set_option maxHeartbeats 4000000 in
set_option maxRecDepth 20000 in
theorem z_X2_putNumber (ad : Nat → Nat) (cs : ClassId × ClassId × ClassId) (S : mS) (T : mT2) (rest : va_W) (hS : sWF S) (i : Int) (j : Nat) (hij : i = (j : Int)) (hj : j < 4) (z : Int) (hz : -9000000000000000000 ≤ z ∧ z ≤ 9000000000000000000)  : mCt (mTy cs) yX2_putNumber cX2_putNumber 4 (some .int) ⟨2, 0, 0, 46⟩ [.ref (ad 0), .int (iZ i), .long (lZ z)] (mWd ad cs (mKof S T) rest) (fun v ws' => v = some (.int (iZ (oNum S j z).1)) ∧ ws' = mWd ad cs (mKof (oNum S j z).2 T) rest) mNo := by
  refine mCt.of (by decide +kernel) (Nat.le_of_ble_eq_true rfl) (fun X hX hE => ?_)
  replace hX : mOK X RX2 cX2_putNumber 4 ⟨2, 0, 0, 46⟩ [] (mTy cs) := hX
  refine r_iload_n hX dX2_putNumber_0 rfl rfl ?_
  refine r_aload_n hX dX2_putNumber_1 rfl rfl ?_
  refine r_get hX kf_X2_13 0 rfl rfl dX2_putNumber_2 ?_
  refine r_alen (v := iZ 4) hX 2 1 rfl rfl rfl dX2_putNumber_5 ?_
  refine r_callS hX (z_X2_requireOne_ok _ _ _ 4 (by decide) (by omega)) ks_X2_34 rfl rfl (Nat.le_of_ble_eq_true rfl) ⟨(Nat.le_of_ble_eq_true rfl), (Nat.le_of_ble_eq_true rfl)⟩ ⟨(Nat.le_of_ble_eq_true rfl), (Nat.le_of_ble_eq_true rfl)⟩ dX2_putNumber_6 (fun _ _ z => False.elim z) (fun v9 ws9 h1 => ?_)
  obtain ⟨rfl, hw9⟩ := h1
  subst ws9
  dsimp only [mPush]
  refine r_lload_n hX dX2_putNumber_9 rfl rfl ?_
  refine r_ldc2Z (z := -1800000000000000000) hX kc_X2_262 (by decide) dX2_putNumber_10 ?_
  refine r_ldc2Z (z := 1800000000999999999) hX kc_X2_264 (by decide) dX2_putNumber_13 ?_
  refine r_callS hX (z_X2_isWithin _ _ _ _ _ (by omega) (by omega) (by omega)) ks_X2_48 rfl rfl (Nat.le_of_ble_eq_true rfl) ⟨(Nat.le_of_ble_eq_true rfl), (Nat.le_of_ble_eq_true rfl)⟩ ⟨(Nat.le_of_ble_eq_true rfl), (Nat.le_of_ble_eq_true rfl)⟩ dX2_putNumber_16 (fun _ _ z => False.elim z) (fun v9 ws9 h2 => ?_)
  obtain ⟨rfl, hw9⟩ := h2
  subst ws9
  dsimp only [mPush]
  refine r_if_neB (tgt := 27) hX dX2_putNumber_19 (by decide) (fun c3 => ?_) (fun c3 => ?_)
  · have c3 := of_decide_eq_true c3
    refine r_aload_n hX dX2_putNumber_27 rfl rfl ?_
    refine r_get hX kf_X2_13 0 rfl rfl dX2_putNumber_28 ?_
    refine r_iload_n hX dX2_putNumber_31 rfl rfl ?_
    refine r_lload_n hX dX2_putNumber_32 rfl rfl ?_
    refine r_lastZ hX 2 1 rfl rfl j (by omega) (by omega) (by decide) dX2_putNumber_33 ?_
    refine r_eqw (zWd_num (j := j) (z := z)) ?_
    refine r_lload_n hX dX2_putNumber_34 rfl rfl ?_
    refine r_callS hX (z_X2_nanoOf _ _ _ (by omega)) ks_X2_92 rfl rfl (Nat.le_of_ble_eq_true rfl) ⟨(Nat.le_of_ble_eq_true rfl), (Nat.le_of_ble_eq_true rfl)⟩ ⟨(Nat.le_of_ble_eq_true rfl), (Nat.le_of_ble_eq_true rfl)⟩ dX2_putNumber_35 (fun _ _ z => False.elim z) (fun v9 ws9 h4 => ?_)
    obtain ⟨rfl, hw9⟩ := h4
    subst ws9
    dsimp only [mPush]
    refine r_iret hX hE dX2_putNumber_38 (Nat.le_of_ble_eq_true rfl) (Nat.le_of_ble_eq_true rfl) ?_
    rw [oNum_y (by assumption)]
    exact ⟨rfl, rfl⟩
  · have c3 := of_decide_eq_false c3
    refine r_aload_n hX dX2_putNumber_22 rfl rfl ?_
    refine r_callV hX (z_X2_refused ad cs S T rest) kv_X2_56 0 rfl rfl rfl rfl (Nat.le_of_ble_eq_true rfl) ⟨(Nat.le_of_ble_eq_true rfl), (Nat.le_of_ble_eq_true rfl)⟩ ⟨(Nat.le_of_ble_eq_true rfl), (Nat.le_of_ble_eq_true rfl)⟩ dX2_putNumber_23 (fun _ _ z => False.elim z) (fun v9 ws9 h5 => ?_)
    obtain ⟨rfl, hw9⟩ := h5
    subst ws9
    dsimp only [mPush]
    refine r_iret hX hE dX2_putNumber_26 (Nat.le_of_ble_eq_true rfl) (Nat.le_of_ble_eq_true rfl) ?_
    rw [oNum_n (by assumption)]
    exact ⟨rfl, rfl⟩
set_option maxHeartbeats 4000000 in
set_option maxRecDepth 20000 in
theorem z_X2_putLocal (ad : Nat → Nat) (cs : ClassId × ClassId × ClassId) (S : mS) (T : mT2) (rest : va_W) (hS : sWF S) (d : Nat) (hd : d < 7) (z n o : Int) (hz : -9000000000000000000 ≤ z ∧ z ≤ 9000000000000000000) (hn : 0 ≤ n ∧ n ≤ 999999999) (ho : -64800 ≤ o ∧ o ≤ 64800)  : mCt (mTy cs) yX2_putLocal cX2_putLocal 6 (some .int) ⟨2, 0, 0, 45⟩ [.ref (ad 0), .ref (ad (d + 5)), .long (lZ z), .int (iZ n), .int (iZ o)] (mWd ad cs (mKof S T) rest) (fun v ws' => v = some (.int (iZ (oLoc S d z n o).1)) ∧ ws' = mWd ad cs (mKof (oLoc S d z n o).2 T) rest) mNo := by
  refine mCt.of (by decide +kernel) (Nat.le_of_ble_eq_true rfl) (fun X hX hE => ?_)
  replace hX : mOK X RX2 cX2_putLocal 6 ⟨2, 0, 0, 45⟩ [] (mTy cs) := hX
  refine r_lload_n hX dX2_putLocal_0 rfl rfl ?_
  refine r_ldc2Z (z := -1893456000) hX kc_X2_266 (by decide) dX2_putLocal_1 ?_
  refine r_ldc2Z (z := 1924991999) hX kc_X2_268 (by decide) dX2_putLocal_4 ?_
  refine r_callS hX (z_X2_isWithin _ _ _ _ _ (by omega) (by omega) (by omega)) ks_X2_48 rfl rfl (Nat.le_of_ble_eq_true rfl) ⟨(Nat.le_of_ble_eq_true rfl), (Nat.le_of_ble_eq_true rfl)⟩ ⟨(Nat.le_of_ble_eq_true rfl), (Nat.le_of_ble_eq_true rfl)⟩ dX2_putLocal_7 (fun _ _ z => False.elim z) (fun v9 ws9 h1 => ?_)
  obtain ⟨rfl, hw9⟩ := h1
  subst ws9
  dsimp only [mPush]
  refine r_if_neB (tgt := 18) hX dX2_putLocal_10 (by decide) (fun c2 => ?_) (fun c2 => ?_)
  · have c2 := of_decide_eq_true c2
    refine r_aload_n hX dX2_putLocal_18 rfl rfl ?_
    refine r_lload_n hX dX2_putLocal_19 rfl rfl ?_
    refine r_iload hX dX2_putLocal_20 rfl ?_
    refine r_iload hX dX2_putLocal_22 rfl ?_
    refine r_callV hX (c_X1_tell _ _ (d + 5) _ _ _ _ (zWd_loc (d := d) hd) _ _ _) kv_X2_270 (d + 5) (zWd_loc (d := d) hd) rfl rfl rfl (Nat.le_of_ble_eq_true rfl) ⟨(Nat.le_of_ble_eq_true rfl), (Nat.le_of_ble_eq_true rfl)⟩ ⟨(Nat.le_of_ble_eq_true rfl), (Nat.le_of_ble_eq_true rfl)⟩ dX2_putLocal_24 (fun _ _ z => False.elim z) (fun v9 ws9 h3 => ?_)
    obtain ⟨rfl, hw9⟩ := h3
    subst ws9
    dsimp only [mPush]
    refine r_eqw (zWd_set (d := d) hd) ?_
    refine r_aload_n hX dX2_putLocal_27 rfl rfl ?_
    refine r_callV hX (z_X1_day _ _ (d + 5) _ _ _ _ (zWd_new (d := d) hd) (by omega)) kv_X2_274 (d + 5) (zWd_new (d := d) hd) rfl rfl rfl (Nat.le_of_ble_eq_true rfl) ⟨(Nat.le_of_ble_eq_true rfl), (Nat.le_of_ble_eq_true rfl)⟩ ⟨(Nat.le_of_ble_eq_true rfl), (Nat.le_of_ble_eq_true rfl)⟩ dX2_putLocal_28 (fun _ _ z => False.elim z) (fun v9 ws9 h4 => ?_)
    obtain ⟨rfl, hw9⟩ := h4
    subst ws9
    dsimp only [mPush]
    refine r_iret hX hE dX2_putLocal_31 (Nat.le_of_ble_eq_true rfl) (Nat.le_of_ble_eq_true rfl) ?_
    rw [oLoc_y (by assumption)]
    exact ⟨rfl, rfl⟩
  · have c2 := of_decide_eq_false c2
    refine r_aload_n hX dX2_putLocal_13 rfl rfl ?_
    refine r_callV hX (z_X2_refused ad cs S T rest) kv_X2_56 0 rfl rfl rfl rfl (Nat.le_of_ble_eq_true rfl) ⟨(Nat.le_of_ble_eq_true rfl), (Nat.le_of_ble_eq_true rfl)⟩ ⟨(Nat.le_of_ble_eq_true rfl), (Nat.le_of_ble_eq_true rfl)⟩ dX2_putLocal_14 (fun _ _ z => False.elim z) (fun v9 ws9 h5 => ?_)
    obtain ⟨rfl, hw9⟩ := h5
    subst ws9
    dsimp only [mPush]
    refine r_iret hX hE dX2_putLocal_17 (Nat.le_of_ble_eq_true rfl) (Nat.le_of_ble_eq_true rfl) ?_
    rw [oLoc_n (by assumption)]
    exact ⟨rfl, rfl⟩
set_option maxHeartbeats 4000000 in
set_option maxRecDepth 20000 in
theorem z_X2_putClock (ad : Nat → Nat) (cs : ClassId × ClassId × ClassId) (S : mS) (T : mT2) (rest : va_W) (hS : sWF S) (c : Nat) (hc : c < 3) (z n o : Int) (hz : -9000000000000000000 ≤ z ∧ z ≤ 9000000000000000000) (hn : 0 ≤ n ∧ n ≤ 999999999) (ho : -64800 ≤ o ∧ o ≤ 64800)  : mCt (mTy cs) yX2_putClock cX2_putClock 6 (some .int) ⟨1, 0, 0, 25⟩ [.ref (ad 0), .ref (ad (c + 4 + 5)), .long (lZ z), .int (iZ n), .int (iZ o)] (mWd ad cs (mKof S T) rest) (fun v ws' => v = some (.int (iZ (oClk S c z n o).1)) ∧ ws' = mWd ad cs (mKof (oClk S c z n o).2 T) rest) mNo := by
  refine mCt.of (by decide +kernel) (Nat.le_of_ble_eq_true rfl) (fun X hX hE => ?_)
  replace hX : mOK X RX2 cX2_putClock 6 ⟨1, 0, 0, 25⟩ [] (mTy cs) := hX
  refine r_aload_n hX dX2_putClock_0 rfl rfl ?_
  refine r_lload_n hX dX2_putClock_1 rfl rfl ?_
  refine r_ldc2Z (z := 86400) hX kc_X2_130 (by decide) dX2_putClock_2 ?_
  refine r_callS hX (z_J9_floorMod _ _ _ _ (by omega) (by unfold zD; omega)) ks_X2_277 rfl rfl (Nat.le_of_ble_eq_true rfl) ⟨(Nat.le_of_ble_eq_true rfl), (Nat.le_of_ble_eq_true rfl)⟩ ⟨(Nat.le_of_ble_eq_true rfl), (Nat.le_of_ble_eq_true rfl)⟩ dX2_putClock_5 (fun _ _ z => False.elim z) (fun v9 ws9 h1 => ?_)
  obtain ⟨rfl, hw9⟩ := h1
  subst ws9
  dsimp only [mPush]
  refine r_iload hX dX2_putClock_8 rfl ?_
  refine r_iload hX dX2_putClock_10 rfl ?_
  refine r_callV hX (c_X1_tell _ _ ((c + 4) + 5) _ _ _ _ (zWd_loc (d := (c + 4)) (by omega)) _ _ _) kv_X2_270 ((c + 4) + 5) (zWd_loc (d := (c + 4)) (by omega)) rfl rfl rfl (Nat.le_of_ble_eq_true rfl) ⟨(Nat.le_of_ble_eq_true rfl), (Nat.le_of_ble_eq_true rfl)⟩ ⟨(Nat.le_of_ble_eq_true rfl), (Nat.le_of_ble_eq_true rfl)⟩ dX2_putClock_12 (fun _ _ z => False.elim z) (fun v9 ws9 h2 => ?_)
  obtain ⟨rfl, hw9⟩ := h2
  subst ws9
  dsimp only [mPush]
  refine r_eqw (zWd_set (d := (c + 4)) (by omega)) ?_
  refine r_aload_n hX dX2_putClock_15 rfl rfl ?_
  refine r_callV hX (z_X1_momentSecond _ _ ((c + 4) + 5) _ _ _ _ (zWd_new (d := (c + 4)) (by omega)) (by omega)) kv_X2_169 ((c + 4) + 5) (zWd_new (d := (c + 4)) (by omega)) rfl rfl rfl (Nat.le_of_ble_eq_true rfl) ⟨(Nat.le_of_ble_eq_true rfl), (Nat.le_of_ble_eq_true rfl)⟩ ⟨(Nat.le_of_ble_eq_true rfl), (Nat.le_of_ble_eq_true rfl)⟩ dX2_putClock_16 (fun _ _ z => False.elim z) (fun v9 ws9 h3 => ?_)
  obtain ⟨rfl, hw9⟩ := h3
  subst ws9
  dsimp only [mPush]
  refine r_l2iZ hX dX2_putClock_19 ?_
  refine r_iret hX hE dX2_putClock_20 (Nat.le_of_ble_eq_true rfl) (Nat.le_of_ble_eq_true rfl) ?_
  exact ⟨rfl, rfl⟩
set_option maxHeartbeats 4000000 in
set_option maxRecDepth 20000 in
theorem z_X2_putDay (ad : Nat → Nat) (cs : ClassId × ClassId × ClassId) (S : mS) (T : mT2) (rest : va_W) (hS : sWF S) (d : Nat) (hd : d < 7) (day : Int) (hday : rJ day)  : mCt (mTy cs) yX2_putDay cX2_putDay 3 (some .int) ⟨3, 0, 0, 70⟩ [.ref (ad 0), .ref (ad (d + 5)), .int (iZ day)] (mWd ad cs (mKof S T) rest) (fun v ws' => v = some (.int (iZ (oLoc S d (day * 86400 + sse S d % 86400) (sna S d) (sow S d)).1)) ∧ ws' = mWd ad cs (mKof (oLoc S d (day * 86400 + sse S d % 86400) (sna S d) (sow S d)).2 T) rest) mNo := by
  refine mCt.of (by decide +kernel) (Nat.le_of_ble_eq_true rfl) (fun X hX hE => ?_)
  replace hX : mOK X RX2 cX2_putDay 3 ⟨3, 0, 0, 70⟩ [] (mTy cs) := hX
  have hr := zrg hS hd
  refine r_aload_n hX dX2_putDay_0 rfl rfl ?_
  refine r_aload_n hX dX2_putDay_1 rfl rfl ?_
  refine r_iload_n hX dX2_putDay_2 rfl rfl ?_
  refine r_i2lZ hX dX2_putDay_3 (by omega) ?_
  refine r_ldc2Z (z := 86400) hX kc_X2_130 (by decide) dX2_putDay_4 ?_
  refine r_lmulZ hX dX2_putDay_7 ?_
  refine r_aload_n hX dX2_putDay_8 rfl rfl ?_
  refine r_callV hX (z_X1_secondOfDay _ _ (d + 5) _ _ _ _ (zWd_loc (d := d) hd) (zrg hS hd)) kv_X2_320 (d + 5) (zWd_loc (d := d) hd) rfl rfl rfl (Nat.le_of_ble_eq_true rfl) ⟨(Nat.le_of_ble_eq_true rfl), (Nat.le_of_ble_eq_true rfl)⟩ ⟨(Nat.le_of_ble_eq_true rfl), (Nat.le_of_ble_eq_true rfl)⟩ dX2_putDay_9 (fun _ _ z => False.elim z) (fun v9 ws9 h1 => ?_)
  obtain ⟨rfl, hw9⟩ := h1
  subst ws9
  dsimp only [mPush]
  refine r_i2lZ hX dX2_putDay_12 (by omega) ?_
  refine r_laddZ hX dX2_putDay_13 ?_
  refine r_aload_n hX dX2_putDay_14 rfl rfl ?_
  refine r_getN hX kg_X2_172 (d + 5) (zWd_loc (d := d) hd) rfl dX2_putDay_15 ?_
  refine r_aload_n hX dX2_putDay_18 rfl rfl ?_
  refine r_getN hX kg_X2_158 (d + 5) (zWd_loc (d := d) hd) rfl dX2_putDay_19 ?_
  refine r_callV hX (z_X2_putLocal ad cs S T rest hS d hd _ _ _ (by omega) (by omega) (by omega)) kv_X2_132 0 rfl rfl rfl rfl (Nat.le_of_ble_eq_true rfl) ⟨(Nat.le_of_ble_eq_true rfl), (Nat.le_of_ble_eq_true rfl)⟩ ⟨(Nat.le_of_ble_eq_true rfl), (Nat.le_of_ble_eq_true rfl)⟩ dX2_putDay_22 (fun _ _ z => False.elim z) (fun v9 ws9 h2 => ?_)
  obtain ⟨rfl, hw9⟩ := h2
  subst ws9
  dsimp only [mPush]
  refine r_iret hX hE dX2_putDay_25 (Nat.le_of_ble_eq_true rfl) (Nat.le_of_ble_eq_true rfl) ?_
  exact ⟨rfl, rfl⟩
def zMin (a b : Int) : Int := if a ≤ b then a else b
def oMon (S : mS) (d : Nat) (m : Int) : Int × mS := if 1910 ≤ m / 12 ∧ m / 12 ≤ 2030 then oLoc S d ((FO (m / 12).toNat + DB (m / 12).toNat (m % 12 + 1).toNat + zMin (DOM (sse S d / 86400)) (dm (m / 12).toNat (m % 12 + 1).toNat : Nat) - 1) * 86400 + sse S d % 86400) (sna S d) (sow S d) else (-9, sRf S)
theorem DOM_b {d : Int} (h1 : -21915 ≤ d) (h2 : d ≤ 22279) : 1 ≤ DOM d ∧ DOM d ≤ (dm (YR d) (MO d) : Nat) := by
  have hs := YR_spec h1 h2
  have hn := FO_s (y := YR d) (by omega)
  have e13 := DB_13 (YR d)
  have e1 := DB_1 (YR d)
  have hd : ∀ m : Nat, 1 ≤ m → DB (YR d) (m + 1) = DB (YR d) m + (dm (YR d) m : Int) := fun m h => DB_s h
  have key : DB (YR d) (MO d) ≤ d - FO (YR d) ∧ d - FO (YR d) < DB (YR d) (MO d + 1) := by
    have h12 := e13
    unfold MO MOy
    repeat' split
    all_goals (try simp only [Nat.reduceAdd])
    all_goals first | omega | (constructor <;> omega)
  have h3 := hd (MO d) (MO_b d).1
  unfold DOM
  omega
set_option maxHeartbeats 4000000 in
set_option maxRecDepth 20000 in
theorem z_J9_min (tys : List (ClassId × FieldType)) (ws : va_W) (a b : Int) (ha : rJ a) (hb : rJ b)  : mCt tys yJ9_min_7cf53 cJ9_min_7cf53 2 (some .int) ⟨0, 0, 0, 0⟩ [.int (iZ a), .int (iZ b)] ws (fun v ws' => v = some (.int (iZ (zMin a b))) ∧ ws' = ws) mNo := by
  refine mCt.of (by decide +kernel) (Nat.le_of_ble_eq_true rfl) (fun X hX hE => ?_)
  replace hX : mOK X RJ9 cJ9_min_7cf53 2 ⟨0, 0, 0, 0⟩ [] tys := hX
  refine r_iload_n hX dJ9_min_7cf53_0 rfl rfl ?_
  refine r_iload_n hX dJ9_min_7cf53_1 rfl rfl ?_
  refine r_icmp_gtZ (tgt := 9) hX dJ9_min_7cf53_2 (by decide) (by omega) (by omega) (fun c1 => ?_) (fun c1 => ?_)
  · refine r_iload_n hX dJ9_min_7cf53_9 rfl rfl ?_
    refine r_iret hX hE dJ9_min_7cf53_10 (Nat.le_of_ble_eq_true rfl) (Nat.le_of_ble_eq_true rfl) ⟨zi ?_, rfl⟩
    unfold zMin
    first | exact (if_pos (by omega)).symm | exact (if_neg (by omega)).symm | exact (if_pos (by assumption)).symm | exact (if_neg (by assumption)).symm
  · refine r_iload_n hX dJ9_min_7cf53_5 rfl rfl ?_
    refine r_goto (tgt := 10) hX dJ9_min_7cf53_6 (by decide) ?_
    refine r_iret hX hE dJ9_min_7cf53_10 (Nat.le_of_ble_eq_true rfl) (Nat.le_of_ble_eq_true rfl) ⟨zi ?_, rfl⟩
    unfold zMin
    first | exact (if_pos (by omega)).symm | exact (if_neg (by omega)).symm | exact (if_pos (by assumption)).symm | exact (if_neg (by assumption)).symm

