/-! The class, exact (rows by a program of this repository). -/
def cmpZ (a b : Int) : Int := if a < b then -1 else if b < a then 1 else 0
theorem cmpZ_b (a b : Int) : -1 ≤ cmpZ a b ∧ cmpZ a b ≤ 1 := by
  unfold cmpZ
  repeat' split
  all_goals omega
theorem cmpZ_s (a b : Int) : (a < b ∧ cmpZ a b = -1) ∨ (a = b ∧ cmpZ a b = 0) ∨ (b < a ∧ cmpZ a b = 1) := by
  unfold cmpZ
  repeat' split
  all_goals omega
/-- by moments; by moments, then by local times -/
def zMo (s n o s0 n0 o0 : Int) : Int := if cmpZ (s - o) (s0 - o0) = 0 then cmpZ n n0 else cmpZ (s - o) (s0 - o0)
def zTo (s n o s0 n0 o0 : Int) : Int := if zMo s n o s0 n0 o0 = 0 then cmpZ s s0 else zMo s n o s0 n0 o0
theorem zMo_b (s n o s0 n0 o0 : Int) : -1 ≤ zMo s n o s0 n0 o0 ∧ zMo s n o s0 n0 o0 ≤ 1 := by
  unfold zMo
  split
  · exact cmpZ_b _ _
  · exact cmpZ_b _ _
theorem zTo_b (s n o s0 n0 o0 : Int) : -1 ≤ zTo s n o s0 n0 o0 ∧ zTo s n o s0 n0 o0 ≤ 1 := by
  unfold zTo
  split
  · exact cmpZ_b _ _
  · exact zMo_b _ _ _ _ _ _
theorem zMo_s (s n o s0 n0 o0 : Int) : ((s - o < s0 - o0 ∨ (s - o = s0 - o0 ∧ n < n0)) ∧ zMo s n o s0 n0 o0 = -1) ∨ ((s - o = s0 - o0 ∧ n = n0) ∧ zMo s n o s0 n0 o0 = 0) ∨ ((s0 - o0 < s - o ∨ (s - o = s0 - o0 ∧ n0 < n)) ∧ zMo s n o s0 n0 o0 = 1) := by
  have h1 := cmpZ_s (s - o) (s0 - o0)
  have h2 := cmpZ_s n n0
  unfold zMo
  split
  · omega
  · omega
theorem zTo_s (s n o s0 n0 o0 : Int) : (zMo s n o s0 n0 o0 = 0 ∧ zTo s n o s0 n0 o0 = cmpZ s s0) ∨ (¬ zMo s n o s0 n0 o0 = 0 ∧ zTo s n o s0 n0 o0 = zMo s n o s0 n0 o0) := by
  by_cases h : zMo s n o s0 n0 o0 = 0
  · exact Or.inl ⟨h, if_pos h⟩
  · exact Or.inr ⟨h, if_neg h⟩
set_option maxHeartbeats 4000000 in
set_option maxRecDepth 20000 in
theorem z_X2_compared (tys : List (ClassId × FieldType)) (ws : va_W) (a b : Int) (ha : rL a) (hb : rL b)  : mCt tys yX2_compared cX2_compared 4 (some .int) ⟨0, 0, 0, 0⟩ [.long (lZ a), .long (lZ b)] ws (fun v ws' => v = some (.int (iZ (cmpZ a b))) ∧ ws' = ws) mNo := by
  refine mCt.of (by decide +kernel) (Nat.le_of_ble_eq_true rfl) (fun X hX hE => ?_)
  replace hX : mOK X RX2 cX2_compared 4 ⟨0, 0, 0, 0⟩ [] tys := hX
  refine r_lload_n hX dX2_compared_0 rfl rfl ?_
  refine r_lload_n hX dX2_compared_1 rfl rfl ?_
  refine r_lif_geZ (tgt := 10) hX dX2_compared_2 dX2_compared_3 (by decide) (by omega) (by omega) (fun c1 => ?_) (fun c1 => ?_)
  · refine r_lload_n hX dX2_compared_10 rfl rfl ?_
    refine r_lload_n hX dX2_compared_11 rfl rfl ?_
    refine r_lif_leZ (tgt := 20) hX dX2_compared_12 dX2_compared_13 (by decide) (by omega) (by omega) (fun c2 => ?_) (fun c2 => ?_)
    · refine r_iconstZ hX dX2_compared_20 ?_
      refine r_iret hX hE dX2_compared_21 (Nat.le_of_ble_eq_true rfl) (Nat.le_of_ble_eq_true rfl) ⟨zi ?_, rfl⟩
      unfold cmpZ
      repeat' split
      all_goals omega
    · refine r_iconstZ hX dX2_compared_16 ?_
      refine r_goto (tgt := 21) hX dX2_compared_17 (by decide) ?_
      refine r_iret hX hE dX2_compared_21 (Nat.le_of_ble_eq_true rfl) (Nat.le_of_ble_eq_true rfl) ⟨zi ?_, rfl⟩
      unfold cmpZ
      repeat' split
      all_goals omega
  · refine r_iconstZ hX dX2_compared_6 ?_
    refine r_goto (tgt := 21) hX dX2_compared_7 (by decide) ?_
    refine r_iret hX hE dX2_compared_21 (Nat.le_of_ble_eq_true rfl) (Nat.le_of_ble_eq_true rfl) ⟨zi ?_, rfl⟩
    unfold cmpZ
    repeat' split
    all_goals omega
set_option maxHeartbeats 4000000 in
set_option maxRecDepth 20000 in
theorem z_X1_momentSecond (tys : List (ClassId × FieldType)) (ws : va_W) (qT aT : Nat) (sT nT oT : Int) (hT : ws[qT]? = some (aT, .inr (2, [.long (lZ sT), .int (iZ nT), .int (iZ oT)]))) (rT : ((-100000000000 ≤ sT ∧ sT ≤ 100000000000) ∧ (0 ≤ nT ∧ nT ≤ 999999999) ∧ (-64800 ≤ oT ∧ oT ≤ 64800)))  : mCt tys yX1_momentSecond cX1_momentSecond 1 (some .long) ⟨0, 0, 0, 0⟩ [.ref aT] ws (fun v ws' => v = some (.long (lZ (sT - oT))) ∧ ws' = ws) mNo := by
  refine mCt.of (by decide +kernel) (Nat.le_of_ble_eq_true rfl) (fun X hX hE => ?_)
  replace hX : mOK X RX1 cX1_momentSecond 1 ⟨0, 0, 0, 0⟩ [] tys := hX
  refine r_aload_n hX dX1_momentSecond_0 rfl rfl ?_
  refine r_get hX kf_X1_9 qT hT rfl dX1_momentSecond_1 ?_
  refine r_aload_n hX dX1_momentSecond_4 rfl rfl ?_
  refine r_get hX kf_X1_19 qT hT rfl dX1_momentSecond_5 ?_
  refine r_i2lZ hX dX1_momentSecond_8 (by omega) ?_
  refine r_lsubZ hX dX1_momentSecond_9 ?_
  refine r_lret hX hE dX1_momentSecond_10 (Nat.le_of_ble_eq_true rfl) (Nat.le_of_ble_eq_true rfl) ⟨zl ?_, rfl⟩
  rfl
set_option maxHeartbeats 4000000 in
set_option maxRecDepth 20000 in
theorem z_X1_day (tys : List (ClassId × FieldType)) (ws : va_W) (qT aT : Nat) (sT nT oT : Int) (hT : ws[qT]? = some (aT, .inr (2, [.long (lZ sT), .int (iZ nT), .int (iZ oT)]))) (rT : ((-100000000000 ≤ sT ∧ sT ≤ 100000000000) ∧ (0 ≤ nT ∧ nT ≤ 999999999) ∧ (-64800 ≤ oT ∧ oT ≤ 64800)))  : mCt tys yX1_day cX1_day 1 (some .int) ⟨1, 0, 0, 25⟩ [.ref aT] ws (fun v ws' => v = some (.int (iZ (sT / 86400))) ∧ ws' = ws) mNo := by
  refine mCt.of (by decide +kernel) (Nat.le_of_ble_eq_true rfl) (fun X hX hE => ?_)
  replace hX : mOK X RX1 cX1_day 1 ⟨1, 0, 0, 25⟩ [] tys := hX
  refine r_aload_n hX dX1_day_0 rfl rfl ?_
  refine r_get hX kf_X1_9 qT hT rfl dX1_day_1 ?_
  refine r_ldc2Z (z := 86400) hX kc_X1_22 (by decide) dX1_day_4 ?_
  refine r_callS hX (z_J9_floorDiv _ _ _ _ (by omega) (by unfold zD; omega)) ks_X1_24 rfl rfl (Nat.le_of_ble_eq_true rfl) ⟨(Nat.le_of_ble_eq_true rfl), (Nat.le_of_ble_eq_true rfl)⟩ ⟨(Nat.le_of_ble_eq_true rfl), (Nat.le_of_ble_eq_true rfl)⟩ dX1_day_7 (fun _ _ z => False.elim z) (fun v9 ws9 h1 => ?_)
  obtain ⟨rfl, hw9⟩ := h1
  subst ws9
  dsimp only [mPush]
  refine r_l2iZ hX dX1_day_10 ?_
  refine r_iret hX hE dX1_day_11 (Nat.le_of_ble_eq_true rfl) (Nat.le_of_ble_eq_true rfl) ⟨zi ?_, rfl⟩
  rfl
set_option maxHeartbeats 4000000 in
set_option maxRecDepth 20000 in
theorem z_X1_beginOfDay (tys : List (ClassId × FieldType)) (ws : va_W) (qT aT : Nat) (sT nT oT : Int) (hT : ws[qT]? = some (aT, .inr (2, [.long (lZ sT), .int (iZ nT), .int (iZ oT)]))) (rT : ((-100000000000 ≤ sT ∧ sT ≤ 100000000000) ∧ (0 ≤ nT ∧ nT ≤ 999999999) ∧ (-64800 ≤ oT ∧ oT ≤ 64800)))  : mCt tys yX1_beginOfDay cX1_beginOfDay 1 (some .long) ⟨2, 0, 0, 45⟩ [.ref aT] ws (fun v ws' => v = some (.long (lZ (sT / 86400 * 86400))) ∧ ws' = ws) mNo := by
  refine mCt.of (by decide +kernel) (Nat.le_of_ble_eq_true rfl) (fun X hX hE => ?_)
  replace hX : mOK X RX1 cX1_beginOfDay 1 ⟨2, 0, 0, 45⟩ [] tys := hX
  refine r_aload_n hX dX1_beginOfDay_0 rfl rfl ?_
  refine r_callV hX (z_X1_day _ _ qT _ _ _ _ hT rT) kv_X1_30 qT hT rfl rfl rfl (Nat.le_of_ble_eq_true rfl) ⟨(Nat.le_of_ble_eq_true rfl), (Nat.le_of_ble_eq_true rfl)⟩ ⟨(Nat.le_of_ble_eq_true rfl), (Nat.le_of_ble_eq_true rfl)⟩ dX1_beginOfDay_1 (fun _ _ z => False.elim z) (fun v9 ws9 h1 => ?_)
  obtain ⟨rfl, hw9⟩ := h1
  subst ws9
  dsimp only [mPush]
  refine r_i2lZ hX dX1_beginOfDay_4 (by omega) ?_
  refine r_ldc2Z (z := 86400) hX kc_X1_22 (by decide) dX1_beginOfDay_5 ?_
  refine r_lmulZ hX dX1_beginOfDay_8 ?_
  refine r_lret hX hE dX1_beginOfDay_9 (Nat.le_of_ble_eq_true rfl) (Nat.le_of_ble_eq_true rfl) ⟨zl ?_, rfl⟩
  rfl
set_option maxHeartbeats 4000000 in
set_option maxRecDepth 20000 in
theorem z_X1_secondOfDay (tys : List (ClassId × FieldType)) (ws : va_W) (qT aT : Nat) (sT nT oT : Int) (hT : ws[qT]? = some (aT, .inr (2, [.long (lZ sT), .int (iZ nT), .int (iZ oT)]))) (rT : ((-100000000000 ≤ sT ∧ sT ≤ 100000000000) ∧ (0 ≤ nT ∧ nT ≤ 999999999) ∧ (-64800 ≤ oT ∧ oT ≤ 64800)))  : mCt tys yX1_secondOfDay cX1_secondOfDay 1 (some .int) ⟨1, 0, 0, 25⟩ [.ref aT] ws (fun v ws' => v = some (.int (iZ (sT % 86400))) ∧ ws' = ws) mNo := by
  refine mCt.of (by decide +kernel) (Nat.le_of_ble_eq_true rfl) (fun X hX hE => ?_)
  replace hX : mOK X RX1 cX1_secondOfDay 1 ⟨1, 0, 0, 25⟩ [] tys := hX
  refine r_aload_n hX dX1_secondOfDay_0 rfl rfl ?_
  refine r_get hX kf_X1_9 qT hT rfl dX1_secondOfDay_1 ?_
  refine r_ldc2Z (z := 86400) hX kc_X1_22 (by decide) dX1_secondOfDay_4 ?_
  refine r_callS hX (z_J9_floorMod _ _ _ _ (by omega) (by unfold zD; omega)) ks_X1_45 rfl rfl (Nat.le_of_ble_eq_true rfl) ⟨(Nat.le_of_ble_eq_true rfl), (Nat.le_of_ble_eq_true rfl)⟩ ⟨(Nat.le_of_ble_eq_true rfl), (Nat.le_of_ble_eq_true rfl)⟩ dX1_secondOfDay_7 (fun _ _ z => False.elim z) (fun v9 ws9 h1 => ?_)
  obtain ⟨rfl, hw9⟩ := h1
  subst ws9
  dsimp only [mPush]
  refine r_l2iZ hX dX1_secondOfDay_10 ?_
  refine r_iret hX hE dX1_secondOfDay_11 (Nat.le_of_ble_eq_true rfl) (Nat.le_of_ble_eq_true rfl) ⟨zi ?_, rfl⟩
  rfl
set_option maxHeartbeats 4000000 in
set_option maxRecDepth 20000 in
theorem z_X1_hour (tys : List (ClassId × FieldType)) (ws : va_W) (qT aT : Nat) (sT nT oT : Int) (hT : ws[qT]? = some (aT, .inr (2, [.long (lZ sT), .int (iZ nT), .int (iZ oT)]))) (rT : ((-100000000000 ≤ sT ∧ sT ≤ 100000000000) ∧ (0 ≤ nT ∧ nT ≤ 999999999) ∧ (-64800 ≤ oT ∧ oT ≤ 64800)))  : mCt tys yX1_hour cX1_hour 1 (some .int) ⟨2, 0, 0, 45⟩ [.ref aT] ws (fun v ws' => v = some (.int (iZ (sT % 86400 / 3600))) ∧ ws' = ws) mNo := by
  refine mCt.of (by decide +kernel) (Nat.le_of_ble_eq_true rfl) (fun X hX hE => ?_)
  replace hX : mOK X RX1 cX1_hour 1 ⟨2, 0, 0, 45⟩ [] tys := hX
  refine r_aload_n hX dX1_hour_0 rfl rfl ?_
  refine r_callV hX (z_X1_secondOfDay _ _ qT _ _ _ _ hT rT) kv_X1_48 qT hT rfl rfl rfl (Nat.le_of_ble_eq_true rfl) ⟨(Nat.le_of_ble_eq_true rfl), (Nat.le_of_ble_eq_true rfl)⟩ ⟨(Nat.le_of_ble_eq_true rfl), (Nat.le_of_ble_eq_true rfl)⟩ dX1_hour_1 (fun _ _ z => False.elim z) (fun v9 ws9 h1 => ?_)
  obtain ⟨rfl, hw9⟩ := h1
  subst ws9
  dsimp only [mPush]
  refine r_sipushZ hX dX1_hour_4 (by decide) ?_
  refine r_idivZ hX dX1_hour_7 (by omega) (by decide) ?_
  refine r_iret hX hE dX1_hour_8 (Nat.le_of_ble_eq_true rfl) (Nat.le_of_ble_eq_true rfl) ⟨zi ?_, rfl⟩
  rfl
set_option maxHeartbeats 4000000 in
set_option maxRecDepth 20000 in
theorem z_X1_minute (tys : List (ClassId × FieldType)) (ws : va_W) (qT aT : Nat) (sT nT oT : Int) (hT : ws[qT]? = some (aT, .inr (2, [.long (lZ sT), .int (iZ nT), .int (iZ oT)]))) (rT : ((-100000000000 ≤ sT ∧ sT ≤ 100000000000) ∧ (0 ≤ nT ∧ nT ≤ 999999999) ∧ (-64800 ≤ oT ∧ oT ≤ 64800)))  : mCt tys yX1_minute cX1_minute 1 (some .int) ⟨2, 0, 0, 45⟩ [.ref aT] ws (fun v ws' => v = some (.int (iZ (sT % 86400 / 60 % 60))) ∧ ws' = ws) mNo := by
  refine mCt.of (by decide +kernel) (Nat.le_of_ble_eq_true rfl) (fun X hX hE => ?_)
  replace hX : mOK X RX1 cX1_minute 1 ⟨2, 0, 0, 45⟩ [] tys := hX
  refine r_aload_n hX dX1_minute_0 rfl rfl ?_
  refine r_callV hX (z_X1_secondOfDay _ _ qT _ _ _ _ hT rT) kv_X1_48 qT hT rfl rfl rfl (Nat.le_of_ble_eq_true rfl) ⟨(Nat.le_of_ble_eq_true rfl), (Nat.le_of_ble_eq_true rfl)⟩ ⟨(Nat.le_of_ble_eq_true rfl), (Nat.le_of_ble_eq_true rfl)⟩ dX1_minute_1 (fun _ _ z => False.elim z) (fun v9 ws9 h1 => ?_)
  obtain ⟨rfl, hw9⟩ := h1
  subst ws9
  dsimp only [mPush]
  refine r_bipushZ hX dX1_minute_4 (by decide) ?_
  refine r_idivZ hX dX1_minute_6 (by omega) (by decide) ?_
  refine r_bipushZ hX dX1_minute_7 (by decide) ?_
  refine r_iremZ hX dX1_minute_9 (by omega) (by decide) ?_
  refine r_iret hX hE dX1_minute_10 (Nat.le_of_ble_eq_true rfl) (Nat.le_of_ble_eq_true rfl) ⟨zi ?_, rfl⟩
  rfl
set_option maxHeartbeats 4000000 in
set_option maxRecDepth 20000 in
theorem z_X1_secondOfMinute (tys : List (ClassId × FieldType)) (ws : va_W) (qT aT : Nat) (sT nT oT : Int) (hT : ws[qT]? = some (aT, .inr (2, [.long (lZ sT), .int (iZ nT), .int (iZ oT)]))) (rT : ((-100000000000 ≤ sT ∧ sT ≤ 100000000000) ∧ (0 ≤ nT ∧ nT ≤ 999999999) ∧ (-64800 ≤ oT ∧ oT ≤ 64800)))  : mCt tys yX1_secondOfMinute cX1_secondOfMinute 1 (some .int) ⟨2, 0, 0, 45⟩ [.ref aT] ws (fun v ws' => v = some (.int (iZ (sT % 86400 % 60))) ∧ ws' = ws) mNo := by
  refine mCt.of (by decide +kernel) (Nat.le_of_ble_eq_true rfl) (fun X hX hE => ?_)
  replace hX : mOK X RX1 cX1_secondOfMinute 1 ⟨2, 0, 0, 45⟩ [] tys := hX
  refine r_aload_n hX dX1_secondOfMinute_0 rfl rfl ?_
  refine r_callV hX (z_X1_secondOfDay _ _ qT _ _ _ _ hT rT) kv_X1_48 qT hT rfl rfl rfl (Nat.le_of_ble_eq_true rfl) ⟨(Nat.le_of_ble_eq_true rfl), (Nat.le_of_ble_eq_true rfl)⟩ ⟨(Nat.le_of_ble_eq_true rfl), (Nat.le_of_ble_eq_true rfl)⟩ dX1_secondOfMinute_1 (fun _ _ z => False.elim z) (fun v9 ws9 h1 => ?_)
  obtain ⟨rfl, hw9⟩ := h1
  subst ws9
  dsimp only [mPush]
  refine r_bipushZ hX dX1_secondOfMinute_4 (by decide) ?_
  refine r_iremZ hX dX1_secondOfMinute_6 (by omega) (by decide) ?_
  refine r_iret hX hE dX1_secondOfMinute_7 (Nat.le_of_ble_eq_true rfl) (Nat.le_of_ble_eq_true rfl) ⟨zi ?_, rfl⟩
  rfl
set_option maxHeartbeats 4000000 in
set_option maxRecDepth 20000 in
theorem z_X1_months (tys : List (ClassId × FieldType)) (ws : va_W) (qT aT : Nat) (sT nT oT : Int) (hT : ws[qT]? = some (aT, .inr (2, [.long (lZ sT), .int (iZ nT), .int (iZ oT)]))) (rT : ((-100000000000 ≤ sT ∧ sT ≤ 100000000000) ∧ (0 ≤ nT ∧ nT ≤ 999999999) ∧ (-64800 ≤ oT ∧ oT ≤ 64800))) (hd : -21915 ≤ sT / 86400 ∧ sT / 86400 ≤ 22279)  : mCt tys yX1_months cX1_months 1 (some .long) ⟨3, 0, 0, 65⟩ [.ref aT] ws (fun v ws' => v = some (.long (lZ ((YR (sT / 86400) : Nat) * 12 + (MO (sT / 86400) : Nat) - 1))) ∧ ws' = ws) mNo := by
  refine mCt.of (by decide +kernel) (Nat.le_of_ble_eq_true rfl) (fun X hX hE => ?_)
  replace hX : mOK X RX1 cX1_months 1 ⟨3, 0, 0, 65⟩ [] tys := hX
  have hy := YR_spec hd.1 hd.2
  have hm := MO_b (sT / 86400)
  refine r_aload_n hX dX1_months_0 rfl rfl ?_
  refine r_callV hX (z_X1_day _ _ qT _ _ _ _ hT rT) kv_X1_30 qT hT rfl rfl rfl (Nat.le_of_ble_eq_true rfl) ⟨(Nat.le_of_ble_eq_true rfl), (Nat.le_of_ble_eq_true rfl)⟩ ⟨(Nat.le_of_ble_eq_true rfl), (Nat.le_of_ble_eq_true rfl)⟩ dX1_months_1 (fun _ _ z => False.elim z) (fun v9 ws9 h1 => ?_)
  obtain ⟨rfl, hw9⟩ := h1
  subst ws9
  dsimp only [mPush]
  refine r_callS hX (z_X0_yearOf _ _ _ (by omega)) ks_X1_34 rfl rfl (Nat.le_of_ble_eq_true rfl) ⟨(Nat.le_of_ble_eq_true rfl), (Nat.le_of_ble_eq_true rfl)⟩ ⟨(Nat.le_of_ble_eq_true rfl), (Nat.le_of_ble_eq_true rfl)⟩ dX1_months_4 (fun _ _ z => False.elim z) (fun v9 ws9 h2 => ?_)
  obtain ⟨rfl, hw9⟩ := h2
  subst ws9
  dsimp only [mPush]
  refine r_i2lZ hX dX1_months_7 (by omega) ?_
  refine r_ldc2Z (z := 12) hX kc_X1_40 (by decide) dX1_months_8 ?_
  refine r_lmulZ hX dX1_months_11 ?_
  refine r_aload_n hX dX1_months_12 rfl rfl ?_
  refine r_callV hX (z_X1_day _ _ qT _ _ _ _ hT rT) kv_X1_30 qT hT rfl rfl rfl (Nat.le_of_ble_eq_true rfl) ⟨(Nat.le_of_ble_eq_true rfl), (Nat.le_of_ble_eq_true rfl)⟩ ⟨(Nat.le_of_ble_eq_true rfl), (Nat.le_of_ble_eq_true rfl)⟩ dX1_months_13 (fun _ _ z => False.elim z) (fun v9 ws9 h3 => ?_)
  obtain ⟨rfl, hw9⟩ := h3
  subst ws9
  dsimp only [mPush]
  refine r_callS hX (z_X0_monthOf _ _ _ (by omega)) ks_X1_42 rfl rfl (Nat.le_of_ble_eq_true rfl) ⟨(Nat.le_of_ble_eq_true rfl), (Nat.le_of_ble_eq_true rfl)⟩ ⟨(Nat.le_of_ble_eq_true rfl), (Nat.le_of_ble_eq_true rfl)⟩ dX1_months_16 (fun _ _ z => False.elim z) (fun v9 ws9 h4 => ?_)
  obtain ⟨rfl, hw9⟩ := h4
  subst ws9
  dsimp only [mPush]
  refine r_i2lZ hX dX1_months_19 (by omega) ?_
  refine r_laddZ hX dX1_months_20 ?_
  refine r_lconstZ (v := 1) hX dX1_months_21 rfl ?_
  refine r_lsubZ hX dX1_months_22 ?_
  refine r_lret hX hE dX1_months_23 (Nat.le_of_ble_eq_true rfl) (Nat.le_of_ble_eq_true rfl) ⟨zl ?_, rfl⟩
  rfl
set_option maxHeartbeats 4000000 in
set_option maxRecDepth 20000 in
theorem z_X1_momentOrder (tys : List (ClassId × FieldType)) (ws : va_W) (qT aT : Nat) (sT nT oT : Int) (hT : ws[qT]? = some (aT, .inr (2, [.long (lZ sT), .int (iZ nT), .int (iZ oT)]))) (rT : ((-100000000000 ≤ sT ∧ sT ≤ 100000000000) ∧ (0 ≤ nT ∧ nT ≤ 999999999) ∧ (-64800 ≤ oT ∧ oT ≤ 64800))) (q0 a0 : Nat) (s0 n0 o0 : Int) (h0 : ws[q0]? = some (a0, .inr (2, [.long (lZ s0), .int (iZ n0), .int (iZ o0)]))) (r0 : ((-100000000000 ≤ s0 ∧ s0 ≤ 100000000000) ∧ (0 ≤ n0 ∧ n0 ≤ 999999999) ∧ (-64800 ≤ o0 ∧ o0 ≤ 64800)))  : mCt tys yX1_momentOrder cX1_momentOrder 3 (some .int) ⟨1, 0, 0, 23⟩ [.ref aT, .ref a0] ws (fun v ws' => v = some (.int (iZ (zMo sT nT oT s0 n0 o0))) ∧ ws' = ws) mNo := by
  refine mCt.of (by decide +kernel) (Nat.le_of_ble_eq_true rfl) (fun X hX hE => ?_)
  replace hX : mOK X RX1 cX1_momentOrder 3 ⟨1, 0, 0, 23⟩ [] tys := hX
  refine r_aload_n hX dX1_momentOrder_0 rfl rfl ?_
  refine r_callV hX (z_X1_momentSecond _ _ qT _ _ _ _ hT rT) kv_X1_55 qT hT rfl rfl rfl (Nat.le_of_ble_eq_true rfl) ⟨(Nat.le_of_ble_eq_true rfl), (Nat.le_of_ble_eq_true rfl)⟩ ⟨(Nat.le_of_ble_eq_true rfl), (Nat.le_of_ble_eq_true rfl)⟩ dX1_momentOrder_1 (fun _ _ z => False.elim z) (fun v9 ws9 h1 => ?_)
  obtain ⟨rfl, hw9⟩ := h1
  subst ws9
  dsimp only [mPush]
  refine r_aload_n hX dX1_momentOrder_4 rfl rfl ?_
  refine r_callV hX (z_X1_momentSecond _ _ q0 _ _ _ _ h0 r0) kv_X1_55 q0 h0 rfl rfl rfl (Nat.le_of_ble_eq_true rfl) ⟨(Nat.le_of_ble_eq_true rfl), (Nat.le_of_ble_eq_true rfl)⟩ ⟨(Nat.le_of_ble_eq_true rfl), (Nat.le_of_ble_eq_true rfl)⟩ dX1_momentOrder_5 (fun _ _ z => False.elim z) (fun v9 ws9 h2 => ?_)
  obtain ⟨rfl, hw9⟩ := h2
  subst ws9
  dsimp only [mPush]
  refine r_callN hX (z_X2_compared _ _ _ _ (by omega) (by omega)) kn_X1_59 rfl rfl (Nat.le_of_ble_eq_true rfl) ⟨(Nat.le_of_ble_eq_true rfl), (Nat.le_of_ble_eq_true rfl)⟩ ⟨(Nat.le_of_ble_eq_true rfl), (Nat.le_of_ble_eq_true rfl)⟩ dX1_momentOrder_8 (fun _ _ z => False.elim z) (fun v9 ws9 h3 => ?_)
  obtain ⟨rfl, hw9⟩ := h3
  subst ws9
  dsimp only [mPush]
  have hcm3 := cmpZ_b (sT - oT) (s0 - o0)
  refine r_istore_n hX dX1_momentOrder_11 rfl (by decide) rfl ?_
  refine r_iload_n hX dX1_momentOrder_12 rfl rfl ?_
  refine r_if_eqZ (tgt := 20) hX dX1_momentOrder_13 (by decide) (by omega) (fun c4 => ?_) (fun c4 => ?_)
  · refine r_aload_n hX dX1_momentOrder_20 rfl rfl ?_
    refine r_get hX kf_X1_15 qT hT rfl dX1_momentOrder_21 ?_
    refine r_i2lZ hX dX1_momentOrder_24 (by omega) ?_
    refine r_aload_n hX dX1_momentOrder_25 rfl rfl ?_
    refine r_get hX kf_X1_15 q0 h0 rfl dX1_momentOrder_26 ?_
    refine r_i2lZ hX dX1_momentOrder_29 (by omega) ?_
    refine r_callN hX (z_X2_compared _ _ _ _ (by omega) (by omega)) kn_X1_59 rfl rfl (Nat.le_of_ble_eq_true rfl) ⟨(Nat.le_of_ble_eq_true rfl), (Nat.le_of_ble_eq_true rfl)⟩ ⟨(Nat.le_of_ble_eq_true rfl), (Nat.le_of_ble_eq_true rfl)⟩ dX1_momentOrder_30 (fun _ _ z => False.elim z) (fun v9 ws9 h5 => ?_)
    obtain ⟨rfl, hw9⟩ := h5
    subst ws9
    dsimp only [mPush]
    have hcm5 := cmpZ_b nT n0
    refine r_iret hX hE dX1_momentOrder_33 (Nat.le_of_ble_eq_true rfl) (Nat.le_of_ble_eq_true rfl) ⟨zi ?_, rfl⟩
    unfold zMo
    first | exact (if_pos (by omega)).symm | exact (if_neg (by omega)).symm | exact (if_pos (by assumption)).symm | exact (if_neg (by assumption)).symm
  · refine r_iload_n hX dX1_momentOrder_16 rfl rfl ?_
    refine r_goto (tgt := 33) hX dX1_momentOrder_17 (by decide) ?_
    refine r_iret hX hE dX1_momentOrder_33 (Nat.le_of_ble_eq_true rfl) (Nat.le_of_ble_eq_true rfl) ⟨zi ?_, rfl⟩
    unfold zMo
    first | exact (if_pos (by omega)).symm | exact (if_neg (by omega)).symm | exact (if_pos (by assumption)).symm | exact (if_neg (by assumption)).symm
set_option maxHeartbeats 4000000 in
set_option maxRecDepth 20000 in
theorem z_X1_isAhead (tys : List (ClassId × FieldType)) (ws : va_W) (qT aT : Nat) (sT nT oT : Int) (hT : ws[qT]? = some (aT, .inr (2, [.long (lZ sT), .int (iZ nT), .int (iZ oT)]))) (rT : ((-100000000000 ≤ sT ∧ sT ≤ 100000000000) ∧ (0 ≤ nT ∧ nT ≤ 999999999) ∧ (-64800 ≤ oT ∧ oT ≤ 64800))) (q0 a0 : Nat) (s0 n0 o0 : Int) (h0 : ws[q0]? = some (a0, .inr (2, [.long (lZ s0), .int (iZ n0), .int (iZ o0)]))) (r0 : ((-100000000000 ≤ s0 ∧ s0 ≤ 100000000000) ∧ (0 ≤ n0 ∧ n0 ≤ 999999999) ∧ (-64800 ≤ o0 ∧ o0 ≤ 64800)))  : mCt tys yX1_isAhead cX1_isAhead 2 (some .boolean) ⟨2, 0, 0, 45⟩ [.ref aT, .ref a0] ws (fun v ws' => v = some (.int (b2i (decide (zMo sT nT oT s0 n0 o0 < 0)))) ∧ ws' = ws) mNo := by
  refine mCt.of (by decide +kernel) (Nat.le_of_ble_eq_true rfl) (fun X hX hE => ?_)
  replace hX : mOK X RX1 cX1_isAhead 2 ⟨2, 0, 0, 45⟩ [] tys := hX
  refine r_aload_n hX dX1_isAhead_0 rfl rfl ?_
  refine r_aload_n hX dX1_isAhead_1 rfl rfl ?_
  refine r_callV hX (z_X1_momentOrder _ _ qT _ _ _ _ hT rT q0 _ _ _ _ h0 r0) kv_X1_51 qT hT rfl rfl rfl (Nat.le_of_ble_eq_true rfl) ⟨(Nat.le_of_ble_eq_true rfl), (Nat.le_of_ble_eq_true rfl)⟩ ⟨(Nat.le_of_ble_eq_true rfl), (Nat.le_of_ble_eq_true rfl)⟩ dX1_isAhead_2 (fun _ _ z => False.elim z) (fun v9 ws9 h1 => ?_)
  obtain ⟨rfl, hw9⟩ := h1
  subst ws9
  dsimp only [mPush]
  have hb1 := zMo_b sT nT oT s0 n0 o0
  refine r_if_geZ (tgt := 12) hX dX1_isAhead_5 (by decide) (by omega) (fun c2 => ?_) (fun c2 => ?_)
  · refine r_iconstZ hX dX1_isAhead_12 ?_
    refine r_zret hX hE dX1_isAhead_13 (by decide) (Nat.le_of_ble_eq_true rfl) (Nat.le_of_ble_eq_true rfl) ⟨zb0 ?_, rfl⟩
    exact decide_eq_false (by omega)
  · refine r_iconstZ hX dX1_isAhead_8 ?_
    refine r_goto (tgt := 13) hX dX1_isAhead_9 (by decide) ?_
    refine r_zret hX hE dX1_isAhead_13 (by decide) (Nat.le_of_ble_eq_true rfl) (Nat.le_of_ble_eq_true rfl) ⟨zb1 ?_, rfl⟩
    exact decide_eq_true (by omega)
set_option maxHeartbeats 4000000 in
set_option maxRecDepth 20000 in
theorem z_X1_isAlike (tys : List (ClassId × FieldType)) (ws : va_W) (qT aT : Nat) (sT nT oT : Int) (hT : ws[qT]? = some (aT, .inr (2, [.long (lZ sT), .int (iZ nT), .int (iZ oT)]))) (rT : ((-100000000000 ≤ sT ∧ sT ≤ 100000000000) ∧ (0 ≤ nT ∧ nT ≤ 999999999) ∧ (-64800 ≤ oT ∧ oT ≤ 64800))) (q0 a0 : Nat) (s0 n0 o0 : Int) (h0 : ws[q0]? = some (a0, .inr (2, [.long (lZ s0), .int (iZ n0), .int (iZ o0)]))) (r0 : ((-100000000000 ≤ s0 ∧ s0 ≤ 100000000000) ∧ (0 ≤ n0 ∧ n0 ≤ 999999999) ∧ (-64800 ≤ o0 ∧ o0 ≤ 64800)))  : mCt tys yX1_isAlike cX1_isAlike 2 (some .boolean) ⟨1, 0, 0, 20⟩ [.ref aT, .ref a0] ws (fun v ws' => v = some (.int (b2i (decide (sT - oT = s0 - o0 ∧ nT = n0)))) ∧ ws' = ws) mNo := by
  refine mCt.of (by decide +kernel) (Nat.le_of_ble_eq_true rfl) (fun X hX hE => ?_)
  replace hX : mOK X RX1 cX1_isAlike 2 ⟨1, 0, 0, 20⟩ [] tys := hX
  refine r_aload_n hX dX1_isAlike_0 rfl rfl ?_
  refine r_callV hX (z_X1_momentSecond _ _ qT _ _ _ _ hT rT) kv_X1_55 qT hT rfl rfl rfl (Nat.le_of_ble_eq_true rfl) ⟨(Nat.le_of_ble_eq_true rfl), (Nat.le_of_ble_eq_true rfl)⟩ ⟨(Nat.le_of_ble_eq_true rfl), (Nat.le_of_ble_eq_true rfl)⟩ dX1_isAlike_1 (fun _ _ z => False.elim z) (fun v9 ws9 h1 => ?_)
  obtain ⟨rfl, hw9⟩ := h1
  subst ws9
  dsimp only [mPush]
  refine r_aload_n hX dX1_isAlike_4 rfl rfl ?_
  refine r_callV hX (z_X1_momentSecond _ _ q0 _ _ _ _ h0 r0) kv_X1_55 q0 h0 rfl rfl rfl (Nat.le_of_ble_eq_true rfl) ⟨(Nat.le_of_ble_eq_true rfl), (Nat.le_of_ble_eq_true rfl)⟩ ⟨(Nat.le_of_ble_eq_true rfl), (Nat.le_of_ble_eq_true rfl)⟩ dX1_isAlike_5 (fun _ _ z => False.elim z) (fun v9 ws9 h2 => ?_)
  obtain ⟨rfl, hw9⟩ := h2
  subst ws9
  dsimp only [mPush]
  refine r_lif_neZ (tgt := 27) hX dX1_isAlike_8 dX1_isAlike_9 (by decide) (by omega) (by omega) (fun c3 => ?_) (fun c3 => ?_)
  · refine r_iconstZ hX dX1_isAlike_27 ?_
    refine r_zret hX hE dX1_isAlike_28 (by decide) (Nat.le_of_ble_eq_true rfl) (Nat.le_of_ble_eq_true rfl) ⟨zb0 ?_, rfl⟩
    exact decide_eq_false (by omega)
  · refine r_aload_n hX dX1_isAlike_12 rfl rfl ?_
    refine r_get hX kf_X1_15 qT hT rfl dX1_isAlike_13 ?_
    refine r_aload_n hX dX1_isAlike_16 rfl rfl ?_
    refine r_get hX kf_X1_15 q0 h0 rfl dX1_isAlike_17 ?_
    refine r_icmp_neZ (tgt := 27) hX dX1_isAlike_20 (by decide) (by omega) (by omega) (fun c4 => ?_) (fun c4 => ?_)
    · refine r_iconstZ hX dX1_isAlike_27 ?_
      refine r_zret hX hE dX1_isAlike_28 (by decide) (Nat.le_of_ble_eq_true rfl) (Nat.le_of_ble_eq_true rfl) ⟨zb0 ?_, rfl⟩
      exact decide_eq_false (by omega)
    · refine r_iconstZ hX dX1_isAlike_23 ?_
      refine r_goto (tgt := 28) hX dX1_isAlike_24 (by decide) ?_
      refine r_zret hX hE dX1_isAlike_28 (by decide) (Nat.le_of_ble_eq_true rfl) (Nat.le_of_ble_eq_true rfl) ⟨zb1 ?_, rfl⟩
      exact decide_eq_true (by omega)
set_option maxHeartbeats 4000000 in
set_option maxRecDepth 20000 in
theorem z_X1_isSame (tys : List (ClassId × FieldType)) (ws : va_W) (qT aT : Nat) (sT nT oT : Int) (hT : ws[qT]? = some (aT, .inr (2, [.long (lZ sT), .int (iZ nT), .int (iZ oT)]))) (rT : ((-100000000000 ≤ sT ∧ sT ≤ 100000000000) ∧ (0 ≤ nT ∧ nT ≤ 999999999) ∧ (-64800 ≤ oT ∧ oT ≤ 64800))) (q0 a0 : Nat) (s0 n0 o0 : Int) (h0 : ws[q0]? = some (a0, .inr (2, [.long (lZ s0), .int (iZ n0), .int (iZ o0)]))) (r0 : ((-100000000000 ≤ s0 ∧ s0 ≤ 100000000000) ∧ (0 ≤ n0 ∧ n0 ≤ 999999999) ∧ (-64800 ≤ o0 ∧ o0 ≤ 64800)))  : mCt tys yX1_isSame cX1_isSame 2 (some .boolean) ⟨0, 0, 0, 0⟩ [.ref aT, .ref a0] ws (fun v ws' => v = some (.int (b2i (decide (sT = s0 ∧ nT = n0 ∧ oT = o0)))) ∧ ws' = ws) mNo := by
  refine mCt.of (by decide +kernel) (Nat.le_of_ble_eq_true rfl) (fun X hX hE => ?_)
  replace hX : mOK X RX1 cX1_isSame 2 ⟨0, 0, 0, 0⟩ [] tys := hX
  refine r_aload_n hX dX1_isSame_0 rfl rfl ?_
  refine r_get hX kf_X1_9 qT hT rfl dX1_isSame_1 ?_
  refine r_aload_n hX dX1_isSame_4 rfl rfl ?_
  refine r_get hX kf_X1_9 q0 h0 rfl dX1_isSame_5 ?_
  refine r_lif_neZ (tgt := 38) hX dX1_isSame_8 dX1_isSame_9 (by decide) (by omega) (by omega) (fun c1 => ?_) (fun c1 => ?_)
  · refine r_iconstZ hX dX1_isSame_38 ?_
    refine r_zret hX hE dX1_isSame_39 (by decide) (Nat.le_of_ble_eq_true rfl) (Nat.le_of_ble_eq_true rfl) ⟨zb0 ?_, rfl⟩
    exact decide_eq_false (by omega)
  · refine r_aload_n hX dX1_isSame_12 rfl rfl ?_
    refine r_get hX kf_X1_15 qT hT rfl dX1_isSame_13 ?_
    refine r_aload_n hX dX1_isSame_16 rfl rfl ?_
    refine r_get hX kf_X1_15 q0 h0 rfl dX1_isSame_17 ?_
    refine r_icmp_neZ (tgt := 38) hX dX1_isSame_20 (by decide) (by omega) (by omega) (fun c2 => ?_) (fun c2 => ?_)
    · refine r_iconstZ hX dX1_isSame_38 ?_
      refine r_zret hX hE dX1_isSame_39 (by decide) (Nat.le_of_ble_eq_true rfl) (Nat.le_of_ble_eq_true rfl) ⟨zb0 ?_, rfl⟩
      exact decide_eq_false (by omega)
    · refine r_aload_n hX dX1_isSame_23 rfl rfl ?_
      refine r_get hX kf_X1_19 qT hT rfl dX1_isSame_24 ?_
      refine r_aload_n hX dX1_isSame_27 rfl rfl ?_
      refine r_get hX kf_X1_19 q0 h0 rfl dX1_isSame_28 ?_
      refine r_icmp_neZ (tgt := 38) hX dX1_isSame_31 (by decide) (by omega) (by omega) (fun c3 => ?_) (fun c3 => ?_)
      · refine r_iconstZ hX dX1_isSame_38 ?_
        refine r_zret hX hE dX1_isSame_39 (by decide) (Nat.le_of_ble_eq_true rfl) (Nat.le_of_ble_eq_true rfl) ⟨zb0 ?_, rfl⟩
        exact decide_eq_false (by omega)
      · refine r_iconstZ hX dX1_isSame_34 ?_
        refine r_goto (tgt := 39) hX dX1_isSame_35 (by decide) ?_
        refine r_zret hX hE dX1_isSame_39 (by decide) (Nat.le_of_ble_eq_true rfl) (Nat.le_of_ble_eq_true rfl) ⟨zb1 ?_, rfl⟩
        exact decide_eq_true (by omega)
set_option maxHeartbeats 4000000 in
set_option maxRecDepth 20000 in
theorem z_X1_orderTo (tys : List (ClassId × FieldType)) (ws : va_W) (qT aT : Nat) (sT nT oT : Int) (hT : ws[qT]? = some (aT, .inr (2, [.long (lZ sT), .int (iZ nT), .int (iZ oT)]))) (rT : ((-100000000000 ≤ sT ∧ sT ≤ 100000000000) ∧ (0 ≤ nT ∧ nT ≤ 999999999) ∧ (-64800 ≤ oT ∧ oT ≤ 64800))) (q0 a0 : Nat) (s0 n0 o0 : Int) (h0 : ws[q0]? = some (a0, .inr (2, [.long (lZ s0), .int (iZ n0), .int (iZ o0)]))) (r0 : ((-100000000000 ≤ s0 ∧ s0 ≤ 100000000000) ∧ (0 ≤ n0 ∧ n0 ≤ 999999999) ∧ (-64800 ≤ o0 ∧ o0 ≤ 64800)))  : mCt tys yX1_orderTo cX1_orderTo 3 (some .int) ⟨2, 0, 0, 45⟩ [.ref aT, .ref a0] ws (fun v ws' => v = some (.int (iZ (zTo sT nT oT s0 n0 o0))) ∧ ws' = ws) mNo := by
  refine mCt.of (by decide +kernel) (Nat.le_of_ble_eq_true rfl) (fun X hX hE => ?_)
  replace hX : mOK X RX1 cX1_orderTo 3 ⟨2, 0, 0, 45⟩ [] tys := hX
  refine r_aload_n hX dX1_orderTo_0 rfl rfl ?_
  refine r_aload_n hX dX1_orderTo_1 rfl rfl ?_
  refine r_callV hX (z_X1_momentOrder _ _ qT _ _ _ _ hT rT q0 _ _ _ _ h0 r0) kv_X1_51 qT hT rfl rfl rfl (Nat.le_of_ble_eq_true rfl) ⟨(Nat.le_of_ble_eq_true rfl), (Nat.le_of_ble_eq_true rfl)⟩ ⟨(Nat.le_of_ble_eq_true rfl), (Nat.le_of_ble_eq_true rfl)⟩ dX1_orderTo_2 (fun _ _ z => False.elim z) (fun v9 ws9 h1 => ?_)
  obtain ⟨rfl, hw9⟩ := h1
  subst ws9
  dsimp only [mPush]
  have hb1 := zMo_b sT nT oT s0 n0 o0
  refine r_istore_n hX dX1_orderTo_5 rfl (by decide) rfl ?_
  refine r_iload_n hX dX1_orderTo_6 rfl rfl ?_
  refine r_if_eqZ (tgt := 14) hX dX1_orderTo_7 (by decide) (by omega) (fun c2 => ?_) (fun c2 => ?_)
  · refine r_aload_n hX dX1_orderTo_14 rfl rfl ?_
    refine r_get hX kf_X1_9 qT hT rfl dX1_orderTo_15 ?_
    refine r_aload_n hX dX1_orderTo_18 rfl rfl ?_
    refine r_get hX kf_X1_9 q0 h0 rfl dX1_orderTo_19 ?_
    refine r_callN hX (z_X2_compared _ _ _ _ (by omega) (by omega)) kn_X1_59 rfl rfl (Nat.le_of_ble_eq_true rfl) ⟨(Nat.le_of_ble_eq_true rfl), (Nat.le_of_ble_eq_true rfl)⟩ ⟨(Nat.le_of_ble_eq_true rfl), (Nat.le_of_ble_eq_true rfl)⟩ dX1_orderTo_22 (fun _ _ z => False.elim z) (fun v9 ws9 h3 => ?_)
    obtain ⟨rfl, hw9⟩ := h3
    subst ws9
    dsimp only [mPush]
    have hcm3 := cmpZ_b sT s0
    refine r_iret hX hE dX1_orderTo_25 (Nat.le_of_ble_eq_true rfl) (Nat.le_of_ble_eq_true rfl) ⟨zi ?_, rfl⟩
    unfold zTo
    first | exact (if_pos (by omega)).symm | exact (if_neg (by omega)).symm | exact (if_pos (by assumption)).symm | exact (if_neg (by assumption)).symm
  · refine r_iload_n hX dX1_orderTo_10 rfl rfl ?_
    refine r_goto (tgt := 25) hX dX1_orderTo_11 (by decide) ?_
    refine r_iret hX hE dX1_orderTo_25 (Nat.le_of_ble_eq_true rfl) (Nat.le_of_ble_eq_true rfl) ⟨zi ?_, rfl⟩
    unfold zTo
    first | exact (if_pos (by omega)).symm | exact (if_neg (by omega)).symm | exact (if_pos (by assumption)).symm | exact (if_neg (by assumption)).symm
set_option maxHeartbeats 4000000 in
set_option maxRecDepth 20000 in
theorem z_X2_numberOf (tys : List (ClassId × FieldType)) (ws : va_W) (qT aT : Nat) (sT nT oT : Int) (hT : ws[qT]? = some (aT, .inr (2, [.long (lZ sT), .int (iZ nT), .int (iZ oT)]))) (rT : ((-100000000000 ≤ sT ∧ sT ≤ 100000000000) ∧ (0 ≤ nT ∧ nT ≤ 999999999) ∧ (-64800 ≤ oT ∧ oT ≤ 64800)))  : mCt tys yX2_numberOf cX2_numberOf 1 (some .long) ⟨1, 0, 0, 20⟩ [.ref aT] ws (fun v ws' => v = some (.long (lZ ((sT - oT) * 1000000000 + nT))) ∧ ws' = ws) mNo := by
  refine mCt.of (by decide +kernel) (Nat.le_of_ble_eq_true rfl) (fun X hX hE => ?_)
  replace hX : mOK X RX2 cX2_numberOf 1 ⟨1, 0, 0, 20⟩ [] tys := hX
  refine r_aload_n hX dX2_numberOf_0 rfl rfl ?_
  refine r_callV hX (z_X1_momentSecond _ _ qT _ _ _ _ hT rT) kv_X2_169 qT hT rfl rfl rfl (Nat.le_of_ble_eq_true rfl) ⟨(Nat.le_of_ble_eq_true rfl), (Nat.le_of_ble_eq_true rfl)⟩ ⟨(Nat.le_of_ble_eq_true rfl), (Nat.le_of_ble_eq_true rfl)⟩ dX2_numberOf_1 (fun _ _ z => False.elim z) (fun v9 ws9 h1 => ?_)
  obtain ⟨rfl, hw9⟩ := h1
  subst ws9
  dsimp only [mPush]
  refine r_ldc2Z (z := 1000000000) hX kc_X2_72 (by decide) dX2_numberOf_4 ?_
  refine r_lmulZ hX dX2_numberOf_7 ?_
  refine r_aload_n hX dX2_numberOf_8 rfl rfl ?_
  refine r_getN hX kg_X2_172 qT hT rfl dX2_numberOf_9 ?_
  refine r_i2lZ hX dX2_numberOf_12 (by omega) ?_
  refine r_laddZ hX dX2_numberOf_13 ?_
  refine r_lret hX hE dX2_numberOf_14 (Nat.le_of_ble_eq_true rfl) (Nat.le_of_ble_eq_true rfl) ⟨zl ?_, rfl⟩
  rfl
set_option maxHeartbeats 4000000 in
set_option maxRecDepth 20000 in
theorem z_X2_secondOf (tys : List (ClassId × FieldType)) (ws : va_W) (a : Int) (ha : -9000000000000000000 ≤ a ∧ a ≤ 9000000000000000000)  : mCt tys yX2_secondOf cX2_secondOf 2 (some .long) ⟨1, 0, 0, 25⟩ [.long (lZ a)] ws (fun v ws' => v = some (.long (lZ (a / 1000000000))) ∧ ws' = ws) mNo := by
  refine mCt.of (by decide +kernel) (Nat.le_of_ble_eq_true rfl) (fun X hX hE => ?_)
  replace hX : mOK X RX2 cX2_secondOf 2 ⟨1, 0, 0, 25⟩ [] tys := hX
  refine r_lload_n hX dX2_secondOf_0 rfl rfl ?_
  refine r_ldc2Z (z := 1000000000) hX kc_X2_72 (by decide) dX2_secondOf_1 ?_
  refine r_callS hX (z_J9_floorDiv _ _ _ _ (by omega) (by unfold zD; omega)) ks_X2_100 rfl rfl (Nat.le_of_ble_eq_true rfl) ⟨(Nat.le_of_ble_eq_true rfl), (Nat.le_of_ble_eq_true rfl)⟩ ⟨(Nat.le_of_ble_eq_true rfl), (Nat.le_of_ble_eq_true rfl)⟩ dX2_secondOf_4 (fun _ _ z => False.elim z) (fun v9 ws9 h1 => ?_)
  obtain ⟨rfl, hw9⟩ := h1
  subst ws9
  dsimp only [mPush]
  refine r_lret hX hE dX2_secondOf_7 (Nat.le_of_ble_eq_true rfl) (Nat.le_of_ble_eq_true rfl) ⟨zl ?_, rfl⟩
  rfl
set_option maxHeartbeats 4000000 in
set_option maxRecDepth 20000 in
theorem z_X2_nanoOf (tys : List (ClassId × FieldType)) (ws : va_W) (a : Int) (ha : -9000000000000000000 ≤ a ∧ a ≤ 9000000000000000000)  : mCt tys yX2_nanoOf cX2_nanoOf 2 (some .int) ⟨1, 0, 0, 25⟩ [.long (lZ a)] ws (fun v ws' => v = some (.int (iZ (a % 1000000000))) ∧ ws' = ws) mNo := by
  refine mCt.of (by decide +kernel) (Nat.le_of_ble_eq_true rfl) (fun X hX hE => ?_)
  replace hX : mOK X RX2 cX2_nanoOf 2 ⟨1, 0, 0, 25⟩ [] tys := hX
  refine r_lload_n hX dX2_nanoOf_0 rfl rfl ?_
  refine r_ldc2Z (z := 1000000000) hX kc_X2_72 (by decide) dX2_nanoOf_1 ?_
  refine r_callS hX (z_J9_floorMod _ _ _ _ (by omega) (by unfold zD; omega)) ks_X2_277 rfl rfl (Nat.le_of_ble_eq_true rfl) ⟨(Nat.le_of_ble_eq_true rfl), (Nat.le_of_ble_eq_true rfl)⟩ ⟨(Nat.le_of_ble_eq_true rfl), (Nat.le_of_ble_eq_true rfl)⟩ dX2_nanoOf_4 (fun _ _ z => False.elim z) (fun v9 ws9 h1 => ?_)
  obtain ⟨rfl, hw9⟩ := h1
  subst ws9
  dsimp only [mPush]
  refine r_l2iZ hX dX2_nanoOf_7 ?_
  refine r_iret hX hE dX2_nanoOf_8 (Nat.le_of_ble_eq_true rfl) (Nat.le_of_ble_eq_true rfl) ⟨zi ?_, rfl⟩
  rfl
/-- the amount to move by -/
def zSg (a : Int) (b : Bool) : Int := cond b (-a) a
theorem zSg_b {a : Int} {b : Bool} (h : rJ a) : -2147483648 ≤ zSg a b ∧ zSg a b ≤ 2147483648 := by cases b <;> simp only [zSg, cond] <;> omega
def zSn (n u b : Int) : Int := if u = 2 then b * 7 * 86400 else if u = 3 then b * 86400 else if u = 4 then b * 3600 else if u = 5 then b * 60 else if u = 6 then b else (n + b) / 1000000000
def zNn (n u b : Int) : Int := if u = 7 then (n + b) % 1000000000 else n
theorem zSn_b {n u b : Int} (hn : 0 ≤ n ∧ n ≤ 999999999) (hb : -2147483648 ≤ b ∧ b ≤ 2147483648) : -1400000000000000 ≤ zSn n u b ∧ zSn n u b ≤ 1400000000000000 := by
  unfold zSn
  repeat' split
  all_goals omega
theorem zNn_b {n u b : Int} (hn : 0 ≤ n ∧ n ≤ 999999999) : 0 ≤ zNn n u b ∧ zNn n u b ≤ 999999999 := by
  unfold zNn
  split <;> omega
set_option maxHeartbeats 4000000 in
set_option maxRecDepth 20000 in
theorem z_X2_signed (tys : List (ClassId × FieldType)) (ws : va_W) (a : Int) (b : Bool) (ha : rJ a)  : mCt tys yX2_signed cX2_signed 2 (some .long) ⟨0, 0, 0, 0⟩ [.int (iZ a), .int (b2i b)] ws (fun v ws' => v = some (.long (lZ (zSg a b))) ∧ ws' = ws) mNo := by
  refine mCt.of (by decide +kernel) (Nat.le_of_ble_eq_true rfl) (fun X hX hE => ?_)
  replace hX : mOK X RX2 cX2_signed 2 ⟨0, 0, 0, 0⟩ [] tys := hX
  refine r_iload_n hX dX2_signed_0 rfl rfl ?_
  refine r_if_eqB (tgt := 10) hX dX2_signed_1 (by decide) (fun c1 => ?_) (fun c1 => ?_)
  · have c1 := id c1
    refine r_iload_n hX dX2_signed_10 rfl rfl ?_
    refine r_i2lZ hX dX2_signed_11 (by omega) ?_
    refine r_lret hX hE dX2_signed_12 (Nat.le_of_ble_eq_true rfl) (Nat.le_of_ble_eq_true rfl) ⟨zl ?_, rfl⟩
    cases b <;> simp_all [zSg]
  · have c1 := id c1
    refine r_iload_n hX dX2_signed_4 rfl rfl ?_
    refine r_i2lZ hX dX2_signed_5 (by omega) ?_
    refine r_lnegZ hX dX2_signed_6 ?_
    refine r_goto (tgt := 12) hX dX2_signed_7 (by decide) ?_
    refine r_lret hX hE dX2_signed_12 (Nat.le_of_ble_eq_true rfl) (Nat.le_of_ble_eq_true rfl) ⟨zl ?_, rfl⟩
    cases b <;> simp_all [zSg]
set_option maxHeartbeats 4000000 in
set_option maxRecDepth 20000 in
theorem z_X2_secondsOn (tys : List (ClassId × FieldType)) (ws : va_W) (q0 a0 : Nat) (s0 n0 o0 : Int) (h0 : ws[q0]? = some (a0, .inr (2, [.long (lZ s0), .int (iZ n0), .int (iZ o0)]))) (r0 : ((-100000000000 ≤ s0 ∧ s0 ≤ 100000000000) ∧ (0 ≤ n0 ∧ n0 ≤ 999999999) ∧ (-64800 ≤ o0 ∧ o0 ≤ 64800))) (u : Int) (hu : rJ u) (by_ : Int) (hby : -2147483648 ≤ by_ ∧ by_ ≤ 2147483648)  : mCt tys yX2_secondsOn cX2_secondsOn 4 (some .long) ⟨2, 0, 0, 46⟩ [.ref a0, .int (iZ u), .long (lZ by_)] ws (fun v ws' => v = some (.long (lZ (zSn n0 u by_))) ∧ ws' = ws) mNo := by
  refine mCt.of (by decide +kernel) (Nat.le_of_ble_eq_true rfl) (fun X hX hE => ?_)
  replace hX : mOK X RX2 cX2_secondsOn 4 ⟨2, 0, 0, 46⟩ [] tys := hX
  refine r_iload_n hX dX2_secondsOn_0 rfl rfl ?_
  by_cases s1 : u = 2
  · refine r_tableInZ (z := 2) (off := 35) (tgt := 36) hX dX2_secondsOn_1 s1 (by decide) (by decide) (by decide) rfl (by decide) ?_
    refine r_lload_n hX dX2_secondsOn_36 rfl rfl ?_
    refine r_ldc2Z (z := 7) hX kc_X2_302 (by decide) dX2_secondsOn_37 ?_
    refine r_lmulZ hX dX2_secondsOn_40 ?_
    refine r_ldc2Z (z := 86400) hX kc_X2_130 (by decide) dX2_secondsOn_41 ?_
    refine r_lmulZ hX dX2_secondsOn_44 ?_
    refine r_lret hX hE dX2_secondsOn_45 (Nat.le_of_ble_eq_true rfl) (Nat.le_of_ble_eq_true rfl) ⟨zl ?_, rfl⟩
    unfold zSn
    rw [if_pos (by omega)]
  by_cases s2 : u = 3
  · refine r_tableInZ (z := 3) (off := 45) (tgt := 46) hX dX2_secondsOn_1 s2 (by decide) (by decide) (by decide) rfl (by decide) ?_
    refine r_lload_n hX dX2_secondsOn_46 rfl rfl ?_
    refine r_ldc2Z (z := 86400) hX kc_X2_130 (by decide) dX2_secondsOn_47 ?_
    refine r_lmulZ hX dX2_secondsOn_50 ?_
    refine r_lret hX hE dX2_secondsOn_51 (Nat.le_of_ble_eq_true rfl) (Nat.le_of_ble_eq_true rfl) ⟨zl ?_, rfl⟩
    unfold zSn
    rw [if_neg (by omega)]
    rw [if_pos (by omega)]
  by_cases s3 : u = 4
  · refine r_tableInZ (z := 4) (off := 51) (tgt := 52) hX dX2_secondsOn_1 s3 (by decide) (by decide) (by decide) rfl (by decide) ?_
    refine r_lload_n hX dX2_secondsOn_52 rfl rfl ?_
    refine r_ldc2Z (z := 3600) hX kc_X2_304 (by decide) dX2_secondsOn_53 ?_
    refine r_lmulZ hX dX2_secondsOn_56 ?_
    refine r_lret hX hE dX2_secondsOn_57 (Nat.le_of_ble_eq_true rfl) (Nat.le_of_ble_eq_true rfl) ⟨zl ?_, rfl⟩
    unfold zSn
    rw [if_neg (by omega)]
    rw [if_neg (by omega)]
    rw [if_pos (by omega)]
  by_cases s4 : u = 5
  · refine r_tableInZ (z := 5) (off := 57) (tgt := 58) hX dX2_secondsOn_1 s4 (by decide) (by decide) (by decide) rfl (by decide) ?_
    refine r_lload_n hX dX2_secondsOn_58 rfl rfl ?_
    refine r_ldc2Z (z := 60) hX kc_X2_306 (by decide) dX2_secondsOn_59 ?_
    refine r_lmulZ hX dX2_secondsOn_62 ?_
    refine r_lret hX hE dX2_secondsOn_63 (Nat.le_of_ble_eq_true rfl) (Nat.le_of_ble_eq_true rfl) ⟨zl ?_, rfl⟩
    unfold zSn
    rw [if_neg (by omega)]
    rw [if_neg (by omega)]
    rw [if_neg (by omega)]
    rw [if_pos (by omega)]
  by_cases s5 : u = 6
  · refine r_tableInZ (z := 6) (off := 63) (tgt := 64) hX dX2_secondsOn_1 s5 (by decide) (by decide) (by decide) rfl (by decide) ?_
    refine r_lload_n hX dX2_secondsOn_64 rfl rfl ?_
    refine r_lret hX hE dX2_secondsOn_65 (Nat.le_of_ble_eq_true rfl) (Nat.le_of_ble_eq_true rfl) ⟨zl ?_, rfl⟩
    unfold zSn
    rw [if_neg (by omega)]
    rw [if_neg (by omega)]
    rw [if_neg (by omega)]
    rw [if_neg (by omega)]
    rw [if_pos (by omega)]
  refine r_tableOutZ (tgt := 66) hX dX2_secondsOn_1 (by omega) (by omega) (by decide) ?_
  refine r_aload_n hX dX2_secondsOn_66 rfl rfl ?_
  refine r_getN hX kg_X2_172 q0 h0 rfl dX2_secondsOn_67 ?_
  refine r_i2lZ hX dX2_secondsOn_70 (by omega) ?_
  refine r_lload_n hX dX2_secondsOn_71 rfl rfl ?_
  refine r_laddZ hX dX2_secondsOn_72 ?_
  refine r_callS hX (z_X2_secondOf _ _ _ (by omega)) ks_X2_96 rfl rfl (Nat.le_of_ble_eq_true rfl) ⟨(Nat.le_of_ble_eq_true rfl), (Nat.le_of_ble_eq_true rfl)⟩ ⟨(Nat.le_of_ble_eq_true rfl), (Nat.le_of_ble_eq_true rfl)⟩ dX2_secondsOn_73 (fun _ _ z => False.elim z) (fun v9 ws9 h6 => ?_)
  obtain ⟨rfl, hw9⟩ := h6
  subst ws9
  dsimp only [mPush]
  refine r_lret hX hE dX2_secondsOn_76 (Nat.le_of_ble_eq_true rfl) (Nat.le_of_ble_eq_true rfl) ⟨zl ?_, rfl⟩
  unfold zSn
  rw [if_neg (by omega)]
  rw [if_neg (by omega)]
  rw [if_neg (by omega)]
  rw [if_neg (by omega)]
  rw [if_neg (by omega)]
set_option maxHeartbeats 4000000 in
set_option maxRecDepth 20000 in
theorem z_X2_nanoOn (tys : List (ClassId × FieldType)) (ws : va_W) (q0 a0 : Nat) (s0 n0 o0 : Int) (h0 : ws[q0]? = some (a0, .inr (2, [.long (lZ s0), .int (iZ n0), .int (iZ o0)]))) (r0 : ((-100000000000 ≤ s0 ∧ s0 ≤ 100000000000) ∧ (0 ≤ n0 ∧ n0 ≤ 999999999) ∧ (-64800 ≤ o0 ∧ o0 ≤ 64800))) (u : Int) (hu : rJ u) (by_ : Int) (hby : -2147483648 ≤ by_ ∧ by_ ≤ 2147483648)  : mCt tys yX2_nanoOn cX2_nanoOn 4 (some .int) ⟨2, 0, 0, 46⟩ [.ref a0, .int (iZ u), .long (lZ by_)] ws (fun v ws' => v = some (.int (iZ (zNn n0 u by_))) ∧ ws' = ws) mNo := by
  refine mCt.of (by decide +kernel) (Nat.le_of_ble_eq_true rfl) (fun X hX hE => ?_)
  replace hX : mOK X RX2 cX2_nanoOn 4 ⟨2, 0, 0, 46⟩ [] tys := hX
  refine r_iload_n hX dX2_nanoOn_0 rfl rfl ?_
  refine r_bipushZ hX dX2_nanoOn_1 (by decide) ?_
  refine r_icmp_neZ (tgt := 19) hX dX2_nanoOn_3 (by decide) (by omega) (by decide) (fun c1 => ?_) (fun c1 => ?_)
  · refine r_aload_n hX dX2_nanoOn_19 rfl rfl ?_
    refine r_getN hX kg_X2_172 q0 h0 rfl dX2_nanoOn_20 ?_
    refine r_iret hX hE dX2_nanoOn_23 (Nat.le_of_ble_eq_true rfl) (Nat.le_of_ble_eq_true rfl) ⟨zi ?_, rfl⟩
    unfold zNn
    first | exact (if_pos (by omega)).symm | exact (if_neg (by omega)).symm | exact (if_pos (by assumption)).symm | exact (if_neg (by assumption)).symm
  · refine r_aload_n hX dX2_nanoOn_6 rfl rfl ?_
    refine r_getN hX kg_X2_172 q0 h0 rfl dX2_nanoOn_7 ?_
    refine r_i2lZ hX dX2_nanoOn_10 (by omega) ?_
    refine r_lload_n hX dX2_nanoOn_11 rfl rfl ?_
    refine r_laddZ hX dX2_nanoOn_12 ?_
    refine r_callS hX (z_X2_nanoOf _ _ _ (by omega)) ks_X2_92 rfl rfl (Nat.le_of_ble_eq_true rfl) ⟨(Nat.le_of_ble_eq_true rfl), (Nat.le_of_ble_eq_true rfl)⟩ ⟨(Nat.le_of_ble_eq_true rfl), (Nat.le_of_ble_eq_true rfl)⟩ dX2_nanoOn_13 (fun _ _ z => False.elim z) (fun v9 ws9 h2 => ?_)
    obtain ⟨rfl, hw9⟩ := h2
    subst ws9
    dsimp only [mPush]
    refine r_goto (tgt := 23) hX dX2_nanoOn_16 (by decide) ?_
    refine r_iret hX hE dX2_nanoOn_23 (Nat.le_of_ble_eq_true rfl) (Nat.le_of_ble_eq_true rfl) ⟨zi ?_, rfl⟩
    unfold zNn
    first | exact (if_pos (by omega)).symm | exact (if_neg (by omega)).symm | exact (if_pos (by assumption)).symm | exact (if_neg (by assumption)).symm
/-- the parts of a DATED, of a CLOCK -/
def zDP (s n o w : Int) : Int := if w = 0 then (YR (s / 86400) : Nat) else if w = 1 then (MO (s / 86400) : Nat) else if w = 2 then DOM (s / 86400) else if w = 3 then s / 86400 - FO (YR (s / 86400)) + 1 else if w = 4 then s % 86400 / 3600 else if w = 5 then s % 86400 / 60 % 60 else if w = 6 then s % 86400 % 60 else if w = 7 then n else if w = 8 then (s / 86400 + 3) % 7 + 1 else if w = 9 then o else if w = 10 then s - o else if w = 11 then s / 86400 else s % 86400
def zCP (s n o w : Int) : Int := if w = 0 then s % 86400 / 3600 else if w = 1 then s % 86400 / 60 % 60 else if w = 2 then s % 86400 % 60 else if w = 3 then n else if w = 4 then o else s % 86400
def zSo (s n o s0 n0 o0 w : Int) : Bool := if w = 0 then decide (zMo s n o s0 n0 o0 < 0) else if w = 1 then decide (zMo s0 n0 o0 s n o < 0) else if w = 2 then decide (s - o = s0 - o0 ∧ n = n0) else decide (s = s0 ∧ n = n0 ∧ o = o0)
set_option maxHeartbeats 4000000 in
set_option maxRecDepth 20000 in
theorem z_X2_datePart (tys : List (ClassId × FieldType)) (ws : va_W) (q0 a0 : Nat) (s0 n0 o0 : Int) (h0 : ws[q0]? = some (a0, .inr (2, [.long (lZ s0), .int (iZ n0), .int (iZ o0)]))) (r0 : ((-100000000000 ≤ s0 ∧ s0 ≤ 100000000000) ∧ (0 ≤ n0 ∧ n0 ≤ 999999999) ∧ (-64800 ≤ o0 ∧ o0 ≤ 64800))) (w : Int) (hw : rJ w) (hd : -21915 ≤ s0 / 86400 ∧ s0 / 86400 ≤ 22279)  : mCt tys yX2_datePart cX2_datePart 3 (some .int) ⟨4, 0, 0, 85⟩ [.ref a0, .int (iZ w)] ws (fun v ws' => v = some (.int (iZ (zDP s0 n0 o0 w))) ∧ ws' = ws) mNo := by
  refine mCt.of (by decide +kernel) (Nat.le_of_ble_eq_true rfl) (fun X hX hE => ?_)
  replace hX : mOK X RX2 cX2_datePart 3 ⟨4, 0, 0, 85⟩ [] tys := hX
  refine r_aload_n hX dX2_datePart_0 rfl rfl ?_
  refine r_callV hX (z_X1_day _ _ q0 _ _ _ _ h0 r0) kv_X2_274 q0 h0 rfl rfl rfl (Nat.le_of_ble_eq_true rfl) ⟨(Nat.le_of_ble_eq_true rfl), (Nat.le_of_ble_eq_true rfl)⟩ ⟨(Nat.le_of_ble_eq_true rfl), (Nat.le_of_ble_eq_true rfl)⟩ dX2_datePart_1 (fun _ _ z => False.elim z) (fun v9 ws9 h1 => ?_)
  obtain ⟨rfl, hw9⟩ := h1
  subst ws9
  dsimp only [mPush]
  refine r_istore_n hX dX2_datePart_4 rfl (by decide) rfl ?_
  refine r_iload_n hX dX2_datePart_5 rfl rfl ?_
  by_cases s2 : w = 0
  · refine r_tableInZ (z := 0) (off := 62) (tgt := 68) hX dX2_datePart_6 s2 (by decide) (by decide) (by decide) rfl (by decide) ?_
    refine r_iload_n hX dX2_datePart_68 rfl rfl ?_
    refine r_callS hX (z_X0_yearOf _ _ _ (by omega)) ks_X2_323 rfl rfl (Nat.le_of_ble_eq_true rfl) ⟨(Nat.le_of_ble_eq_true rfl), (Nat.le_of_ble_eq_true rfl)⟩ ⟨(Nat.le_of_ble_eq_true rfl), (Nat.le_of_ble_eq_true rfl)⟩ dX2_datePart_69 (fun _ _ z => False.elim z) (fun v9 ws9 h3 => ?_)
    obtain ⟨rfl, hw9⟩ := h3
    subst ws9
    dsimp only [mPush]
    refine r_iret hX hE dX2_datePart_72 (Nat.le_of_ble_eq_true rfl) (Nat.le_of_ble_eq_true rfl) ⟨zi ?_, rfl⟩
    unfold zDP
    rw [if_pos (by omega)]
  by_cases s4 : w = 1
  · refine r_tableInZ (z := 1) (off := 67) (tgt := 73) hX dX2_datePart_6 s4 (by decide) (by decide) (by decide) rfl (by decide) ?_
    refine r_iload_n hX dX2_datePart_73 rfl rfl ?_
    refine r_callS hX (z_X0_monthOf _ _ _ (by omega)) ks_X2_326 rfl rfl (Nat.le_of_ble_eq_true rfl) ⟨(Nat.le_of_ble_eq_true rfl), (Nat.le_of_ble_eq_true rfl)⟩ ⟨(Nat.le_of_ble_eq_true rfl), (Nat.le_of_ble_eq_true rfl)⟩ dX2_datePart_74 (fun _ _ z => False.elim z) (fun v9 ws9 h5 => ?_)
    obtain ⟨rfl, hw9⟩ := h5
    subst ws9
    dsimp only [mPush]
    refine r_iret hX hE dX2_datePart_77 (Nat.le_of_ble_eq_true rfl) (Nat.le_of_ble_eq_true rfl) ⟨zi ?_, rfl⟩
    unfold zDP
    rw [if_neg (by omega)]
    rw [if_pos (by omega)]
  by_cases s6 : w = 2
  · refine r_tableInZ (z := 2) (off := 72) (tgt := 78) hX dX2_datePart_6 s6 (by decide) (by decide) (by decide) rfl (by decide) ?_
    refine r_iload_n hX dX2_datePart_78 rfl rfl ?_
    refine r_callS hX (z_X0_dayOfMonth _ _ _ (by omega)) ks_X2_311 rfl rfl (Nat.le_of_ble_eq_true rfl) ⟨(Nat.le_of_ble_eq_true rfl), (Nat.le_of_ble_eq_true rfl)⟩ ⟨(Nat.le_of_ble_eq_true rfl), (Nat.le_of_ble_eq_true rfl)⟩ dX2_datePart_79 (fun _ _ z => False.elim z) (fun v9 ws9 h7 => ?_)
    obtain ⟨rfl, hw9⟩ := h7
    subst ws9
    dsimp only [mPush]
    refine r_iret hX hE dX2_datePart_82 (Nat.le_of_ble_eq_true rfl) (Nat.le_of_ble_eq_true rfl) ⟨zi ?_, rfl⟩
    unfold zDP
    rw [if_neg (by omega)]
    rw [if_neg (by omega)]
    rw [if_pos (by omega)]
  by_cases s8 : w = 3
  · refine r_tableInZ (z := 3) (off := 77) (tgt := 83) hX dX2_datePart_6 s8 (by decide) (by decide) (by decide) rfl (by decide) ?_
    refine r_iload_n hX dX2_datePart_83 rfl rfl ?_
    refine r_callS hX (z_X0_dayOfYear _ _ _ (by omega)) ks_X2_350 rfl rfl (Nat.le_of_ble_eq_true rfl) ⟨(Nat.le_of_ble_eq_true rfl), (Nat.le_of_ble_eq_true rfl)⟩ ⟨(Nat.le_of_ble_eq_true rfl), (Nat.le_of_ble_eq_true rfl)⟩ dX2_datePart_84 (fun _ _ z => False.elim z) (fun v9 ws9 h9 => ?_)
    obtain ⟨rfl, hw9⟩ := h9
    subst ws9
    dsimp only [mPush]
    refine r_iret hX hE dX2_datePart_87 (Nat.le_of_ble_eq_true rfl) (Nat.le_of_ble_eq_true rfl) ⟨zi ?_, rfl⟩
    unfold zDP
    rw [if_neg (by omega)]
    rw [if_neg (by omega)]
    rw [if_neg (by omega)]
    rw [if_pos (by omega)]
  by_cases s10 : w = 4
  · refine r_tableInZ (z := 4) (off := 82) (tgt := 88) hX dX2_datePart_6 s10 (by decide) (by decide) (by decide) rfl (by decide) ?_
    refine r_aload_n hX dX2_datePart_88 rfl rfl ?_
    refine r_callV hX (z_X1_hour _ _ q0 _ _ _ _ h0 r0) kv_X2_335 q0 h0 rfl rfl rfl (Nat.le_of_ble_eq_true rfl) ⟨(Nat.le_of_ble_eq_true rfl), (Nat.le_of_ble_eq_true rfl)⟩ ⟨(Nat.le_of_ble_eq_true rfl), (Nat.le_of_ble_eq_true rfl)⟩ dX2_datePart_89 (fun _ _ z => False.elim z) (fun v9 ws9 h11 => ?_)
    obtain ⟨rfl, hw9⟩ := h11
    subst ws9
    dsimp only [mPush]
    refine r_iret hX hE dX2_datePart_92 (Nat.le_of_ble_eq_true rfl) (Nat.le_of_ble_eq_true rfl) ⟨zi ?_, rfl⟩
    unfold zDP
    rw [if_neg (by omega)]
    rw [if_neg (by omega)]
    rw [if_neg (by omega)]
    rw [if_neg (by omega)]
    rw [if_pos (by omega)]
  by_cases s12 : w = 5
  · refine r_tableInZ (z := 5) (off := 87) (tgt := 93) hX dX2_datePart_6 s12 (by decide) (by decide) (by decide) rfl (by decide) ?_
    refine r_aload_n hX dX2_datePart_93 rfl rfl ?_
    refine r_callV hX (z_X1_minute _ _ q0 _ _ _ _ h0 r0) kv_X2_342 q0 h0 rfl rfl rfl (Nat.le_of_ble_eq_true rfl) ⟨(Nat.le_of_ble_eq_true rfl), (Nat.le_of_ble_eq_true rfl)⟩ ⟨(Nat.le_of_ble_eq_true rfl), (Nat.le_of_ble_eq_true rfl)⟩ dX2_datePart_94 (fun _ _ z => False.elim z) (fun v9 ws9 h13 => ?_)
    obtain ⟨rfl, hw9⟩ := h13
    subst ws9
    dsimp only [mPush]
    refine r_iret hX hE dX2_datePart_97 (Nat.le_of_ble_eq_true rfl) (Nat.le_of_ble_eq_true rfl) ⟨zi ?_, rfl⟩
    unfold zDP
    rw [if_neg (by omega)]
    rw [if_neg (by omega)]
    rw [if_neg (by omega)]
    rw [if_neg (by omega)]
    rw [if_neg (by omega)]
    rw [if_pos (by omega)]
  by_cases s14 : w = 6
  · refine r_tableInZ (z := 6) (off := 92) (tgt := 98) hX dX2_datePart_6 s14 (by decide) (by decide) (by decide) rfl (by decide) ?_
    refine r_aload_n hX dX2_datePart_98 rfl rfl ?_
    refine r_callV hX (z_X1_secondOfMinute _ _ q0 _ _ _ _ h0 r0) kv_X2_345 q0 h0 rfl rfl rfl (Nat.le_of_ble_eq_true rfl) ⟨(Nat.le_of_ble_eq_true rfl), (Nat.le_of_ble_eq_true rfl)⟩ ⟨(Nat.le_of_ble_eq_true rfl), (Nat.le_of_ble_eq_true rfl)⟩ dX2_datePart_99 (fun _ _ z => False.elim z) (fun v9 ws9 h15 => ?_)
    obtain ⟨rfl, hw9⟩ := h15
    subst ws9
    dsimp only [mPush]
    refine r_iret hX hE dX2_datePart_102 (Nat.le_of_ble_eq_true rfl) (Nat.le_of_ble_eq_true rfl) ⟨zi ?_, rfl⟩
    unfold zDP
    rw [if_neg (by omega)]
    rw [if_neg (by omega)]
    rw [if_neg (by omega)]
    rw [if_neg (by omega)]
    rw [if_neg (by omega)]
    rw [if_neg (by omega)]
    rw [if_pos (by omega)]
  by_cases s16 : w = 7
  · refine r_tableInZ (z := 7) (off := 97) (tgt := 103) hX dX2_datePart_6 s16 (by decide) (by decide) (by decide) rfl (by decide) ?_
    refine r_aload_n hX dX2_datePart_103 rfl rfl ?_
    refine r_getN hX kg_X2_172 q0 h0 rfl dX2_datePart_104 ?_
    refine r_iret hX hE dX2_datePart_107 (Nat.le_of_ble_eq_true rfl) (Nat.le_of_ble_eq_true rfl) ⟨zi ?_, rfl⟩
    unfold zDP
    rw [if_neg (by omega)]
    rw [if_neg (by omega)]
    rw [if_neg (by omega)]
    rw [if_neg (by omega)]
    rw [if_neg (by omega)]
    rw [if_neg (by omega)]
    rw [if_neg (by omega)]
    rw [if_pos (by omega)]
  by_cases s17 : w = 8
  · refine r_tableInZ (z := 8) (off := 102) (tgt := 108) hX dX2_datePart_6 s17 (by decide) (by decide) (by decide) rfl (by decide) ?_
    refine r_iload_n hX dX2_datePart_108 rfl rfl ?_
    refine r_callS hX (z_X0_dayOfWeek _ _ _ (by omega)) ks_X2_353 rfl rfl (Nat.le_of_ble_eq_true rfl) ⟨(Nat.le_of_ble_eq_true rfl), (Nat.le_of_ble_eq_true rfl)⟩ ⟨(Nat.le_of_ble_eq_true rfl), (Nat.le_of_ble_eq_true rfl)⟩ dX2_datePart_109 (fun _ _ z => False.elim z) (fun v9 ws9 h18 => ?_)
    obtain ⟨rfl, hw9⟩ := h18
    subst ws9
    dsimp only [mPush]
    refine r_iret hX hE dX2_datePart_112 (Nat.le_of_ble_eq_true rfl) (Nat.le_of_ble_eq_true rfl) ⟨zi ?_, rfl⟩
    unfold zDP
    rw [if_neg (by omega)]
    rw [if_neg (by omega)]
    rw [if_neg (by omega)]
    rw [if_neg (by omega)]
    rw [if_neg (by omega)]
    rw [if_neg (by omega)]
    rw [if_neg (by omega)]
    rw [if_neg (by omega)]
    rw [if_pos (by omega)]
  by_cases s19 : w = 9
  · refine r_tableInZ (z := 9) (off := 107) (tgt := 113) hX dX2_datePart_6 s19 (by decide) (by decide) (by decide) rfl (by decide) ?_
    refine r_aload_n hX dX2_datePart_113 rfl rfl ?_
    refine r_getN hX kg_X2_158 q0 h0 rfl dX2_datePart_114 ?_
    refine r_iret hX hE dX2_datePart_117 (Nat.le_of_ble_eq_true rfl) (Nat.le_of_ble_eq_true rfl) ⟨zi ?_, rfl⟩
    unfold zDP
    rw [if_neg (by omega)]
    rw [if_neg (by omega)]
    rw [if_neg (by omega)]
    rw [if_neg (by omega)]
    rw [if_neg (by omega)]
    rw [if_neg (by omega)]
    rw [if_neg (by omega)]
    rw [if_neg (by omega)]
    rw [if_neg (by omega)]
    rw [if_pos (by omega)]
  by_cases s20 : w = 10
  · refine r_tableInZ (z := 10) (off := 112) (tgt := 118) hX dX2_datePart_6 s20 (by decide) (by decide) (by decide) rfl (by decide) ?_
    refine r_aload_n hX dX2_datePart_118 rfl rfl ?_
    refine r_callV hX (z_X1_momentSecond _ _ q0 _ _ _ _ h0 r0) kv_X2_169 q0 h0 rfl rfl rfl (Nat.le_of_ble_eq_true rfl) ⟨(Nat.le_of_ble_eq_true rfl), (Nat.le_of_ble_eq_true rfl)⟩ ⟨(Nat.le_of_ble_eq_true rfl), (Nat.le_of_ble_eq_true rfl)⟩ dX2_datePart_119 (fun _ _ z => False.elim z) (fun v9 ws9 h21 => ?_)
    obtain ⟨rfl, hw9⟩ := h21
    subst ws9
    dsimp only [mPush]
    refine r_l2iZ hX dX2_datePart_122 ?_
    refine r_iret hX hE dX2_datePart_123 (Nat.le_of_ble_eq_true rfl) (Nat.le_of_ble_eq_true rfl) ⟨zi ?_, rfl⟩
    unfold zDP
    rw [if_neg (by omega)]
    rw [if_neg (by omega)]
    rw [if_neg (by omega)]
    rw [if_neg (by omega)]
    rw [if_neg (by omega)]
    rw [if_neg (by omega)]
    rw [if_neg (by omega)]
    rw [if_neg (by omega)]
    rw [if_neg (by omega)]
    rw [if_neg (by omega)]
    rw [if_pos (by omega)]
  by_cases s22 : w = 11
  · refine r_tableInZ (z := 11) (off := 118) (tgt := 124) hX dX2_datePart_6 s22 (by decide) (by decide) (by decide) rfl (by decide) ?_
    refine r_iload_n hX dX2_datePart_124 rfl rfl ?_
    refine r_iret hX hE dX2_datePart_125 (Nat.le_of_ble_eq_true rfl) (Nat.le_of_ble_eq_true rfl) ⟨zi ?_, rfl⟩
    unfold zDP
    rw [if_neg (by omega)]
    rw [if_neg (by omega)]
    rw [if_neg (by omega)]
    rw [if_neg (by omega)]
    rw [if_neg (by omega)]
    rw [if_neg (by omega)]
    rw [if_neg (by omega)]
    rw [if_neg (by omega)]
    rw [if_neg (by omega)]
    rw [if_neg (by omega)]
    rw [if_neg (by omega)]
    rw [if_pos (by omega)]
  refine r_tableOutZ (tgt := 126) hX dX2_datePart_6 (by omega) (by omega) (by decide) ?_
  refine r_aload_n hX dX2_datePart_126 rfl rfl ?_
  refine r_callV hX (z_X1_secondOfDay _ _ q0 _ _ _ _ h0 r0) kv_X2_320 q0 h0 rfl rfl rfl (Nat.le_of_ble_eq_true rfl) ⟨(Nat.le_of_ble_eq_true rfl), (Nat.le_of_ble_eq_true rfl)⟩ ⟨(Nat.le_of_ble_eq_true rfl), (Nat.le_of_ble_eq_true rfl)⟩ dX2_datePart_127 (fun _ _ z => False.elim z) (fun v9 ws9 h23 => ?_)
  obtain ⟨rfl, hw9⟩ := h23
  subst ws9
  dsimp only [mPush]
  refine r_iret hX hE dX2_datePart_130 (Nat.le_of_ble_eq_true rfl) (Nat.le_of_ble_eq_true rfl) ⟨zi ?_, rfl⟩
  unfold zDP
  rw [if_neg (by omega)]
  rw [if_neg (by omega)]
  rw [if_neg (by omega)]
  rw [if_neg (by omega)]
  rw [if_neg (by omega)]
  rw [if_neg (by omega)]
  rw [if_neg (by omega)]
  rw [if_neg (by omega)]
  rw [if_neg (by omega)]
  rw [if_neg (by omega)]
  rw [if_neg (by omega)]
  rw [if_neg (by omega)]
set_option maxHeartbeats 4000000 in
set_option maxRecDepth 20000 in
theorem z_X2_clockPart (tys : List (ClassId × FieldType)) (ws : va_W) (q0 a0 : Nat) (s0 n0 o0 : Int) (h0 : ws[q0]? = some (a0, .inr (2, [.long (lZ s0), .int (iZ n0), .int (iZ o0)]))) (r0 : ((-100000000000 ≤ s0 ∧ s0 ≤ 100000000000) ∧ (0 ≤ n0 ∧ n0 ≤ 999999999) ∧ (-64800 ≤ o0 ∧ o0 ≤ 64800))) (w : Int) (hw : rJ w)  : mCt tys yX2_clockPart cX2_clockPart 2 (some .int) ⟨3, 0, 0, 65⟩ [.ref a0, .int (iZ w)] ws (fun v ws' => v = some (.int (iZ (zCP s0 n0 o0 w))) ∧ ws' = ws) mNo := by
  refine mCt.of (by decide +kernel) (Nat.le_of_ble_eq_true rfl) (fun X hX hE => ?_)
  replace hX : mOK X RX2 cX2_clockPart 2 ⟨3, 0, 0, 65⟩ [] tys := hX
  refine r_iload_n hX dX2_clockPart_0 rfl rfl ?_
  by_cases s1 : w = 0
  · refine r_tableInZ (z := 0) (off := 35) (tgt := 36) hX dX2_clockPart_1 s1 (by decide) (by decide) (by decide) rfl (by decide) ?_
    refine r_aload_n hX dX2_clockPart_36 rfl rfl ?_
    refine r_callV hX (z_X1_hour _ _ q0 _ _ _ _ h0 r0) kv_X2_335 q0 h0 rfl rfl rfl (Nat.le_of_ble_eq_true rfl) ⟨(Nat.le_of_ble_eq_true rfl), (Nat.le_of_ble_eq_true rfl)⟩ ⟨(Nat.le_of_ble_eq_true rfl), (Nat.le_of_ble_eq_true rfl)⟩ dX2_clockPart_37 (fun _ _ z => False.elim z) (fun v9 ws9 h2 => ?_)
    obtain ⟨rfl, hw9⟩ := h2
    subst ws9
    dsimp only [mPush]
    refine r_iret hX hE dX2_clockPart_40 (Nat.le_of_ble_eq_true rfl) (Nat.le_of_ble_eq_true rfl) ⟨zi ?_, rfl⟩
    unfold zCP
    rw [if_pos (by omega)]
  by_cases s3 : w = 1
  · refine r_tableInZ (z := 1) (off := 40) (tgt := 41) hX dX2_clockPart_1 s3 (by decide) (by decide) (by decide) rfl (by decide) ?_
    refine r_aload_n hX dX2_clockPart_41 rfl rfl ?_
    refine r_callV hX (z_X1_minute _ _ q0 _ _ _ _ h0 r0) kv_X2_342 q0 h0 rfl rfl rfl (Nat.le_of_ble_eq_true rfl) ⟨(Nat.le_of_ble_eq_true rfl), (Nat.le_of_ble_eq_true rfl)⟩ ⟨(Nat.le_of_ble_eq_true rfl), (Nat.le_of_ble_eq_true rfl)⟩ dX2_clockPart_42 (fun _ _ z => False.elim z) (fun v9 ws9 h4 => ?_)
    obtain ⟨rfl, hw9⟩ := h4
    subst ws9
    dsimp only [mPush]
    refine r_iret hX hE dX2_clockPart_45 (Nat.le_of_ble_eq_true rfl) (Nat.le_of_ble_eq_true rfl) ⟨zi ?_, rfl⟩
    unfold zCP
    rw [if_neg (by omega)]
    rw [if_pos (by omega)]
  by_cases s5 : w = 2
  · refine r_tableInZ (z := 2) (off := 45) (tgt := 46) hX dX2_clockPart_1 s5 (by decide) (by decide) (by decide) rfl (by decide) ?_
    refine r_aload_n hX dX2_clockPart_46 rfl rfl ?_
    refine r_callV hX (z_X1_secondOfMinute _ _ q0 _ _ _ _ h0 r0) kv_X2_345 q0 h0 rfl rfl rfl (Nat.le_of_ble_eq_true rfl) ⟨(Nat.le_of_ble_eq_true rfl), (Nat.le_of_ble_eq_true rfl)⟩ ⟨(Nat.le_of_ble_eq_true rfl), (Nat.le_of_ble_eq_true rfl)⟩ dX2_clockPart_47 (fun _ _ z => False.elim z) (fun v9 ws9 h6 => ?_)
    obtain ⟨rfl, hw9⟩ := h6
    subst ws9
    dsimp only [mPush]
    refine r_iret hX hE dX2_clockPart_50 (Nat.le_of_ble_eq_true rfl) (Nat.le_of_ble_eq_true rfl) ⟨zi ?_, rfl⟩
    unfold zCP
    rw [if_neg (by omega)]
    rw [if_neg (by omega)]
    rw [if_pos (by omega)]
  by_cases s7 : w = 3
  · refine r_tableInZ (z := 3) (off := 50) (tgt := 51) hX dX2_clockPart_1 s7 (by decide) (by decide) (by decide) rfl (by decide) ?_
    refine r_aload_n hX dX2_clockPart_51 rfl rfl ?_
    refine r_getN hX kg_X2_172 q0 h0 rfl dX2_clockPart_52 ?_
    refine r_iret hX hE dX2_clockPart_55 (Nat.le_of_ble_eq_true rfl) (Nat.le_of_ble_eq_true rfl) ⟨zi ?_, rfl⟩
    unfold zCP
    rw [if_neg (by omega)]
    rw [if_neg (by omega)]
    rw [if_neg (by omega)]
    rw [if_pos (by omega)]
  by_cases s8 : w = 4
  · refine r_tableInZ (z := 4) (off := 55) (tgt := 56) hX dX2_clockPart_1 s8 (by decide) (by decide) (by decide) rfl (by decide) ?_
    refine r_aload_n hX dX2_clockPart_56 rfl rfl ?_
    refine r_getN hX kg_X2_158 q0 h0 rfl dX2_clockPart_57 ?_
    refine r_iret hX hE dX2_clockPart_60 (Nat.le_of_ble_eq_true rfl) (Nat.le_of_ble_eq_true rfl) ⟨zi ?_, rfl⟩
    unfold zCP
    rw [if_neg (by omega)]
    rw [if_neg (by omega)]
    rw [if_neg (by omega)]
    rw [if_neg (by omega)]
    rw [if_pos (by omega)]
  refine r_tableOutZ (tgt := 61) hX dX2_clockPart_1 (by omega) (by omega) (by decide) ?_
  refine r_aload_n hX dX2_clockPart_61 rfl rfl ?_
  refine r_callV hX (z_X1_secondOfDay _ _ q0 _ _ _ _ h0 r0) kv_X2_320 q0 h0 rfl rfl rfl (Nat.le_of_ble_eq_true rfl) ⟨(Nat.le_of_ble_eq_true rfl), (Nat.le_of_ble_eq_true rfl)⟩ ⟨(Nat.le_of_ble_eq_true rfl), (Nat.le_of_ble_eq_true rfl)⟩ dX2_clockPart_62 (fun _ _ z => False.elim z) (fun v9 ws9 h9 => ?_)
  obtain ⟨rfl, hw9⟩ := h9
  subst ws9
  dsimp only [mPush]
  refine r_iret hX hE dX2_clockPart_65 (Nat.le_of_ble_eq_true rfl) (Nat.le_of_ble_eq_true rfl) ⟨zi ?_, rfl⟩
  unfold zCP
  rw [if_neg (by omega)]
  rw [if_neg (by omega)]
  rw [if_neg (by omega)]
  rw [if_neg (by omega)]
  rw [if_neg (by omega)]
set_option maxHeartbeats 4000000 in
set_option maxRecDepth 20000 in
theorem z_X2_isSo (tys : List (ClassId × FieldType)) (ws : va_W) (q0 a0 : Nat) (s0 n0 o0 : Int) (h0 : ws[q0]? = some (a0, .inr (2, [.long (lZ s0), .int (iZ n0), .int (iZ o0)]))) (r0 : ((-100000000000 ≤ s0 ∧ s0 ≤ 100000000000) ∧ (0 ≤ n0 ∧ n0 ≤ 999999999) ∧ (-64800 ≤ o0 ∧ o0 ≤ 64800))) (q1 a1 : Nat) (s1 n1 o1 : Int) (h1 : ws[q1]? = some (a1, .inr (2, [.long (lZ s1), .int (iZ n1), .int (iZ o1)]))) (r1 : ((-100000000000 ≤ s1 ∧ s1 ≤ 100000000000) ∧ (0 ≤ n1 ∧ n1 ≤ 999999999) ∧ (-64800 ≤ o1 ∧ o1 ≤ 64800))) (w : Int) (hw : rJ w)  : mCt tys yX2_isSo cX2_isSo 3 (some .boolean) ⟨3, 0, 0, 66⟩ [.ref a0, .ref a1, .int (iZ w)] ws (fun v ws' => v = some (.int (b2i (zSo s0 n0 o0 s1 n1 o1 w))) ∧ ws' = ws) mNo := by
  refine mCt.of (by decide +kernel) (Nat.le_of_ble_eq_true rfl) (fun X hX hE => ?_)
  replace hX : mOK X RX2 cX2_isSo 3 ⟨3, 0, 0, 66⟩ [] tys := hX
  refine r_iload_n hX dX2_isSo_0 rfl rfl ?_
  by_cases s1 : w = 0
  · refine r_tableInZ (z := 0) (off := 27) (tgt := 28) hX dX2_isSo_1 s1 (by decide) (by decide) (by decide) rfl (by decide) ?_
    refine r_aload_n hX dX2_isSo_28 rfl rfl ?_
    refine r_aload_n hX dX2_isSo_29 rfl rfl ?_
    refine r_callV hX (z_X1_isAhead _ _ q0 _ _ _ _ h0 r0 q1 _ _ _ _ h1 r1) kv_X2_356 q0 h0 rfl rfl rfl (Nat.le_of_ble_eq_true rfl) ⟨(Nat.le_of_ble_eq_true rfl), (Nat.le_of_ble_eq_true rfl)⟩ ⟨(Nat.le_of_ble_eq_true rfl), (Nat.le_of_ble_eq_true rfl)⟩ dX2_isSo_30 (fun _ _ z => False.elim z) (fun v9 ws9 h2 => ?_)
    obtain ⟨rfl, hw9⟩ := h2
    subst ws9
    dsimp only [mPush]
    refine r_zret hX hE dX2_isSo_33 (b2i_n _) (Nat.le_of_ble_eq_true rfl) (Nat.le_of_ble_eq_true rfl) ⟨zb ?_, rfl⟩
    unfold zSo
    rw [if_pos (by omega)]
  by_cases s3 : w = 1
  · refine r_tableInZ (z := 1) (off := 33) (tgt := 34) hX dX2_isSo_1 s3 (by decide) (by decide) (by decide) rfl (by decide) ?_
    refine r_aload_n hX dX2_isSo_34 rfl rfl ?_
    refine r_aload_n hX dX2_isSo_35 rfl rfl ?_
    refine r_callV hX (z_X1_isAhead _ _ q1 _ _ _ _ h1 r1 q0 _ _ _ _ h0 r0) kv_X2_356 q1 h1 rfl rfl rfl (Nat.le_of_ble_eq_true rfl) ⟨(Nat.le_of_ble_eq_true rfl), (Nat.le_of_ble_eq_true rfl)⟩ ⟨(Nat.le_of_ble_eq_true rfl), (Nat.le_of_ble_eq_true rfl)⟩ dX2_isSo_36 (fun _ _ z => False.elim z) (fun v9 ws9 h4 => ?_)
    obtain ⟨rfl, hw9⟩ := h4
    subst ws9
    dsimp only [mPush]
    refine r_zret hX hE dX2_isSo_39 (b2i_n _) (Nat.le_of_ble_eq_true rfl) (Nat.le_of_ble_eq_true rfl) ⟨zb ?_, rfl⟩
    unfold zSo
    rw [if_neg (by omega)]
    rw [if_pos (by omega)]
  by_cases s5 : w = 2
  · refine r_tableInZ (z := 2) (off := 39) (tgt := 40) hX dX2_isSo_1 s5 (by decide) (by decide) (by decide) rfl (by decide) ?_
    refine r_aload_n hX dX2_isSo_40 rfl rfl ?_
    refine r_aload_n hX dX2_isSo_41 rfl rfl ?_
    refine r_callV hX (z_X1_isAlike _ _ q0 _ _ _ _ h0 r0 q1 _ _ _ _ h1 r1) kv_X2_360 q0 h0 rfl rfl rfl (Nat.le_of_ble_eq_true rfl) ⟨(Nat.le_of_ble_eq_true rfl), (Nat.le_of_ble_eq_true rfl)⟩ ⟨(Nat.le_of_ble_eq_true rfl), (Nat.le_of_ble_eq_true rfl)⟩ dX2_isSo_42 (fun _ _ z => False.elim z) (fun v9 ws9 h6 => ?_)
    obtain ⟨rfl, hw9⟩ := h6
    subst ws9
    dsimp only [mPush]
    refine r_zret hX hE dX2_isSo_45 (b2i_n _) (Nat.le_of_ble_eq_true rfl) (Nat.le_of_ble_eq_true rfl) ⟨zb ?_, rfl⟩
    unfold zSo
    rw [if_neg (by omega)]
    rw [if_neg (by omega)]
    rw [if_pos (by omega)]
  refine r_tableOutZ (tgt := 46) hX dX2_isSo_1 (by omega) (by omega) (by decide) ?_
  refine r_aload_n hX dX2_isSo_46 rfl rfl ?_
  refine r_aload_n hX dX2_isSo_47 rfl rfl ?_
  refine r_callV hX (z_X1_isSame _ _ q0 _ _ _ _ h0 r0 q1 _ _ _ _ h1 r1) kv_X2_363 q0 h0 rfl rfl rfl (Nat.le_of_ble_eq_true rfl) ⟨(Nat.le_of_ble_eq_true rfl), (Nat.le_of_ble_eq_true rfl)⟩ ⟨(Nat.le_of_ble_eq_true rfl), (Nat.le_of_ble_eq_true rfl)⟩ dX2_isSo_48 (fun _ _ z => False.elim z) (fun v9 ws9 h7 => ?_)
  obtain ⟨rfl, hw9⟩ := h7
  subst ws9
  dsimp only [mPush]
  refine r_zret hX hE dX2_isSo_51 (b2i_n _) (Nat.le_of_ble_eq_true rfl) (Nat.le_of_ble_eq_true rfl) ⟨zb ?_, rfl⟩
  unfold zSo
  rw [if_neg (by omega)]
  rw [if_neg (by omega)]
  rw [if_neg (by omega)]

