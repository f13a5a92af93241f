/-! The class, exact (rows by a program of this repository). -/
theorem zb1 {b : Bool} (h : b = true) : some (Value.int (iZ 1)) = some (Value.int (b2i b)) := by rw [h]; rfl
theorem zb0 {b : Bool} (h : b = false) : some (Value.int (iZ 0)) = some (Value.int (b2i b)) := by rw [h]; rfl
theorem leap_y {y : Nat} (h : y % 400 = 0 ∨ (y % 4 = 0 ∧ ¬ y % 100 = 0)) : leapb y = true := by
  simp only [leapb, Bool.or_eq_true, Bool.and_eq_true, beq_iff_eq, Bool.not_eq_true', beq_eq_false_iff_ne, ne_eq]
  exact h
theorem leap_n {y : Nat} (h : ¬ (y % 400 = 0 ∨ (y % 4 = 0 ∧ ¬ y % 100 = 0))) : leapb y = false := by
  rw [Bool.eq_false_iff]
  simp only [leapb, Bool.or_eq_true, Bool.and_eq_true, beq_iff_eq, Bool.not_eq_true', beq_eq_false_iff_ne, ne_eq]
  exact h
theorem DB_line {y m : Nat} (h1 : 1 ≤ m) (h2 : m ≤ 12) : DB y m = if m ≤ 2 then (367 * (m : Int) - 362) / 12 else if leapb y = true then (367 * (m : Int) - 362) / 12 - 1 else (367 * (m : Int) - 362) / 12 - 2 := by
  rcases (show m = 1 ∨ m = 2 ∨ m = 3 ∨ m = 4 ∨ m = 5 ∨ m = 6 ∨ m = 7 ∨ m = 8 ∨ m = 9 ∨ m = 10 ∨ m = 11 ∨ m = 12 by omega) with rfl | rfl | rfl | rfl | rfl | rfl | rfl | rfl | rfl | rfl | rfl | rfl <;> cases h : leapb y <;> simp [DB, dm, h]
theorem yl_y {y : Nat} (h : leapb y = true) : (366 : Int) = ((yl y : Nat) : Int) := by unfold yl; rw [if_pos h]; rfl
theorem yl_n {y : Nat} (h : leapb y = false) : (365 : Int) = ((yl y : Nat) : Int) := by unfold yl; rw [h]; rfl
theorem MO_b (d : Int) : 1 ≤ MO d ∧ MO d ≤ 12 := by
  unfold MO MOy
  repeat' split
  all_goals omega
set_option maxHeartbeats 4000000 in
set_option maxRecDepth 20000 in
theorem z_X0_isLeap (tys : List (ClassId × FieldType)) (ws : va_W) (Y : Int) (y : Nat) (hY : Y = (y : Int)) (hy : 1 ≤ y ∧ y < 2100)  : mCt tys yX0_isLeap cX0_isLeap 1 (some .boolean) ⟨0, 0, 0, 0⟩ [.int (iZ Y)] ws (fun v ws' => v = some (.int (b2i (leapb y))) ∧ ws' = ws) mNo := by
  refine mCt.of (by decide +kernel) (Nat.le_of_ble_eq_true rfl) (fun X hX hE => ?_)
  replace hX : mOK X RX0 cX0_isLeap 1 ⟨0, 0, 0, 0⟩ [] tys := hX
  refine r_iload_n hX dX0_isLeap_0 rfl rfl ?_
  refine r_iconstZ hX dX0_isLeap_1 ?_
  refine r_iremZ hX dX0_isLeap_2 (by omega) (by decide) ?_
  refine r_if_neZ (tgt := 25) hX dX0_isLeap_3 (by decide) (by omega) (fun c1 => ?_) (fun c1 => ?_)
  · refine r_iconstZ hX dX0_isLeap_25 ?_
    refine r_zret hX hE dX0_isLeap_26 (by decide) (Nat.le_of_ble_eq_true rfl) (Nat.le_of_ble_eq_true rfl) ⟨zb0 ?_, rfl⟩
    exact leap_n (by omega)
  · refine r_iload_n hX dX0_isLeap_6 rfl rfl ?_
    refine r_bipushZ hX dX0_isLeap_7 (by decide) ?_
    refine r_iremZ hX dX0_isLeap_9 (by omega) (by decide) ?_
    refine r_if_neZ (tgt := 21) hX dX0_isLeap_10 (by decide) (by omega) (fun c2 => ?_) (fun c2 => ?_)
    · refine r_iconstZ hX dX0_isLeap_21 ?_
      refine r_goto (tgt := 26) hX dX0_isLeap_22 (by decide) ?_
      refine r_zret hX hE dX0_isLeap_26 (by decide) (Nat.le_of_ble_eq_true rfl) (Nat.le_of_ble_eq_true rfl) ⟨zb1 ?_, rfl⟩
      exact leap_y (by omega)
    · refine r_iload_n hX dX0_isLeap_13 rfl rfl ?_
      refine r_sipushZ hX dX0_isLeap_14 (by decide) ?_
      refine r_iremZ hX dX0_isLeap_17 (by omega) (by decide) ?_
      refine r_if_neZ (tgt := 25) hX dX0_isLeap_18 (by decide) (by omega) (fun c3 => ?_) (fun c3 => ?_)
      · refine r_iconstZ hX dX0_isLeap_25 ?_
        refine r_zret hX hE dX0_isLeap_26 (by decide) (Nat.le_of_ble_eq_true rfl) (Nat.le_of_ble_eq_true rfl) ⟨zb0 ?_, rfl⟩
        exact leap_n (by omega)
      · refine r_iconstZ hX dX0_isLeap_21 ?_
        refine r_goto (tgt := 26) hX dX0_isLeap_22 (by decide) ?_
        refine r_zret hX hE dX0_isLeap_26 (by decide) (Nat.le_of_ble_eq_true rfl) (Nat.le_of_ble_eq_true rfl) ⟨zb1 ?_, rfl⟩
        exact leap_y (by omega)
set_option maxHeartbeats 4000000 in
set_option maxRecDepth 20000 in
theorem z_X0_lengthOfYear (tys : List (ClassId × FieldType)) (ws : va_W) (Y : Int) (y : Nat) (hY : Y = (y : Int)) (hy : 1 ≤ y ∧ y < 2100)  : mCt tys yX0_lengthOfYear cX0_lengthOfYear 1 (some .int) ⟨1, 0, 0, 20⟩ [.int (iZ Y)] ws (fun v ws' => v = some (.int (iZ (yl y : Nat))) ∧ ws' = ws) mNo := by
  refine mCt.of (by decide +kernel) (Nat.le_of_ble_eq_true rfl) (fun X hX hE => ?_)
  replace hX : mOK X RX0 cX0_lengthOfYear 1 ⟨1, 0, 0, 20⟩ [] tys := hX
  refine r_iload_n hX dX0_lengthOfYear_0 rfl rfl ?_
  refine r_callS hX (z_X0_isLeap _ _ _ y (by omega) (by omega)) ks_X0_9 rfl rfl (Nat.le_of_ble_eq_true rfl) ⟨(Nat.le_of_ble_eq_true rfl), (Nat.le_of_ble_eq_true rfl)⟩ ⟨(Nat.le_of_ble_eq_true rfl), (Nat.le_of_ble_eq_true rfl)⟩ dX0_lengthOfYear_1 (fun _ _ z => False.elim z) (fun v9 ws9 h1 => ?_)
  obtain ⟨rfl, hw9⟩ := h1
  subst ws9
  dsimp only [mPush]
  refine r_if_eqB (tgt := 13) hX dX0_lengthOfYear_4 (by decide) (fun c2 => ?_) (fun c2 => ?_)
  · have c2 := id c2
    refine r_sipushZ hX dX0_lengthOfYear_13 (by decide) ?_
    refine r_iret hX hE dX0_lengthOfYear_16 (Nat.le_of_ble_eq_true rfl) (Nat.le_of_ble_eq_true rfl) ⟨zi ?_, rfl⟩
    exact yl_n c2
  · have c2 := id c2
    refine r_sipushZ hX dX0_lengthOfYear_7 (by decide) ?_
    refine r_goto (tgt := 16) hX dX0_lengthOfYear_10 (by decide) ?_
    refine r_iret hX hE dX0_lengthOfYear_16 (Nat.le_of_ble_eq_true rfl) (Nat.le_of_ble_eq_true rfl) ⟨zi ?_, rfl⟩
    exact yl_y c2
set_option maxHeartbeats 4000000 in
set_option maxRecDepth 20000 in
theorem z_X0_lengthOfMonth (tys : List (ClassId × FieldType)) (ws : va_W) (Y : Int) (y : Nat) (hY : Y = (y : Int)) (hy : 1 ≤ y ∧ y < 2100) (M : Int) (m : Nat) (hM : M = (m : Int)) (hm : 1 ≤ m ∧ m ≤ 12)  : mCt tys yX0_lengthOfMonth cX0_lengthOfMonth 2 (some .int) ⟨1, 0, 0, 20⟩ [.int (iZ Y), .int (iZ M)] ws (fun v ws' => v = some (.int (iZ (dm y m : Nat))) ∧ ws' = ws) mNo := by
  refine mCt.of (by decide +kernel) (Nat.le_of_ble_eq_true rfl) (fun X hX hE => ?_)
  replace hX : mOK X RX0 cX0_lengthOfMonth 2 ⟨1, 0, 0, 20⟩ [] tys := hX
  refine r_iload_n hX dX0_lengthOfMonth_0 rfl rfl ?_
  by_cases s1 : M = 2
  · refine r_tableInZ (z := 2) (off := 55) (tgt := 56) hX dX0_lengthOfMonth_1 s1 (by decide) (by decide) (by decide) rfl (by decide) ?_
    refine r_iload_n hX dX0_lengthOfMonth_56 rfl rfl ?_
    refine r_callS hX (z_X0_isLeap _ _ _ y (by omega) (by omega)) ks_X0_9 rfl rfl (Nat.le_of_ble_eq_true rfl) ⟨(Nat.le_of_ble_eq_true rfl), (Nat.le_of_ble_eq_true rfl)⟩ ⟨(Nat.le_of_ble_eq_true rfl), (Nat.le_of_ble_eq_true rfl)⟩ dX0_lengthOfMonth_57 (fun _ _ z => False.elim z) (fun v9 ws9 h2 => ?_)
    obtain ⟨rfl, hw9⟩ := h2
    subst ws9
    dsimp only [mPush]
    refine r_if_eqB (tgt := 68) hX dX0_lengthOfMonth_60 (by decide) (fun c3 => ?_) (fun c3 => ?_)
    · have c3 := id c3
      refine r_bipushZ hX dX0_lengthOfMonth_68 (by decide) ?_
      refine r_iret hX hE dX0_lengthOfMonth_70 (Nat.le_of_ble_eq_true rfl) (Nat.le_of_ble_eq_true rfl) ⟨zi ?_, rfl⟩
      rw [show m = 2 by omega]
      simp [dm, *]
    · have c3 := id c3
      refine r_bipushZ hX dX0_lengthOfMonth_63 (by decide) ?_
      refine r_goto (tgt := 70) hX dX0_lengthOfMonth_65 (by decide) ?_
      refine r_iret hX hE dX0_lengthOfMonth_70 (Nat.le_of_ble_eq_true rfl) (Nat.le_of_ble_eq_true rfl) ⟨zi ?_, rfl⟩
      rw [show m = 2 by omega]
      simp [dm, *]
  by_cases s4 : M = 3
  · refine r_tableInZ (z := 3) (off := 73) (tgt := 74) hX dX0_lengthOfMonth_1 s4 (by decide) (by decide) (by decide) rfl (by decide) ?_
    refine r_bipushZ hX dX0_lengthOfMonth_74 (by decide) ?_
    refine r_iret hX hE dX0_lengthOfMonth_76 (Nat.le_of_ble_eq_true rfl) (Nat.le_of_ble_eq_true rfl) ⟨zi ?_, rfl⟩
    rw [show m = 3 by omega]
    simp [dm]
  by_cases s5 : M = 4
  · refine r_tableInZ (z := 4) (off := 70) (tgt := 71) hX dX0_lengthOfMonth_1 s5 (by decide) (by decide) (by decide) rfl (by decide) ?_
    refine r_bipushZ hX dX0_lengthOfMonth_71 (by decide) ?_
    refine r_iret hX hE dX0_lengthOfMonth_73 (Nat.le_of_ble_eq_true rfl) (Nat.le_of_ble_eq_true rfl) ⟨zi ?_, rfl⟩
    rw [show m = 4 by omega]
    simp [dm]
  by_cases s6 : M = 5
  · refine r_tableInZ (z := 5) (off := 73) (tgt := 74) hX dX0_lengthOfMonth_1 s6 (by decide) (by decide) (by decide) rfl (by decide) ?_
    refine r_bipushZ hX dX0_lengthOfMonth_74 (by decide) ?_
    refine r_iret hX hE dX0_lengthOfMonth_76 (Nat.le_of_ble_eq_true rfl) (Nat.le_of_ble_eq_true rfl) ⟨zi ?_, rfl⟩
    rw [show m = 5 by omega]
    simp [dm]
  by_cases s7 : M = 6
  · refine r_tableInZ (z := 6) (off := 70) (tgt := 71) hX dX0_lengthOfMonth_1 s7 (by decide) (by decide) (by decide) rfl (by decide) ?_
    refine r_bipushZ hX dX0_lengthOfMonth_71 (by decide) ?_
    refine r_iret hX hE dX0_lengthOfMonth_73 (Nat.le_of_ble_eq_true rfl) (Nat.le_of_ble_eq_true rfl) ⟨zi ?_, rfl⟩
    rw [show m = 6 by omega]
    simp [dm]
  by_cases s8 : M = 7
  · refine r_tableInZ (z := 7) (off := 73) (tgt := 74) hX dX0_lengthOfMonth_1 s8 (by decide) (by decide) (by decide) rfl (by decide) ?_
    refine r_bipushZ hX dX0_lengthOfMonth_74 (by decide) ?_
    refine r_iret hX hE dX0_lengthOfMonth_76 (Nat.le_of_ble_eq_true rfl) (Nat.le_of_ble_eq_true rfl) ⟨zi ?_, rfl⟩
    rw [show m = 7 by omega]
    simp [dm]
  by_cases s9 : M = 8
  · refine r_tableInZ (z := 8) (off := 73) (tgt := 74) hX dX0_lengthOfMonth_1 s9 (by decide) (by decide) (by decide) rfl (by decide) ?_
    refine r_bipushZ hX dX0_lengthOfMonth_74 (by decide) ?_
    refine r_iret hX hE dX0_lengthOfMonth_76 (Nat.le_of_ble_eq_true rfl) (Nat.le_of_ble_eq_true rfl) ⟨zi ?_, rfl⟩
    rw [show m = 8 by omega]
    simp [dm]
  by_cases s10 : M = 9
  · refine r_tableInZ (z := 9) (off := 70) (tgt := 71) hX dX0_lengthOfMonth_1 s10 (by decide) (by decide) (by decide) rfl (by decide) ?_
    refine r_bipushZ hX dX0_lengthOfMonth_71 (by decide) ?_
    refine r_iret hX hE dX0_lengthOfMonth_73 (Nat.le_of_ble_eq_true rfl) (Nat.le_of_ble_eq_true rfl) ⟨zi ?_, rfl⟩
    rw [show m = 9 by omega]
    simp [dm]
  by_cases s11 : M = 10
  · refine r_tableInZ (z := 10) (off := 73) (tgt := 74) hX dX0_lengthOfMonth_1 s11 (by decide) (by decide) (by decide) rfl (by decide) ?_
    refine r_bipushZ hX dX0_lengthOfMonth_74 (by decide) ?_
    refine r_iret hX hE dX0_lengthOfMonth_76 (Nat.le_of_ble_eq_true rfl) (Nat.le_of_ble_eq_true rfl) ⟨zi ?_, rfl⟩
    rw [show m = 10 by omega]
    simp [dm]
  by_cases s12 : M = 11
  · refine r_tableInZ (z := 11) (off := 70) (tgt := 71) hX dX0_lengthOfMonth_1 s12 (by decide) (by decide) (by decide) rfl (by decide) ?_
    refine r_bipushZ hX dX0_lengthOfMonth_71 (by decide) ?_
    refine r_iret hX hE dX0_lengthOfMonth_73 (Nat.le_of_ble_eq_true rfl) (Nat.le_of_ble_eq_true rfl) ⟨zi ?_, rfl⟩
    rw [show m = 11 by omega]
    simp [dm]
  refine r_tableOutZ (tgt := 74) hX dX0_lengthOfMonth_1 (by omega) (by omega) (by decide) ?_
  refine r_bipushZ hX dX0_lengthOfMonth_74 (by decide) ?_
  refine r_iret hX hE dX0_lengthOfMonth_76 (Nat.le_of_ble_eq_true rfl) (Nat.le_of_ble_eq_true rfl) ⟨zi ?_, rfl⟩
  rcases (show m = 1 ∨ m = 12 by omega) with h | h <;> rw [h] <;> simp [dm]
set_option maxHeartbeats 4000000 in
set_option maxRecDepth 20000 in
theorem z_X0_isDay (tys : List (ClassId × FieldType)) (ws : va_W) (Y : Int) (y : Nat) (hY : Y = (y : Int)) (hy : 1 ≤ y ∧ y < 2100) (M : Int) (hM : rJ M) (dd : Int) (hD : rJ dd)  : mCt tys yX0_isDay cX0_isDay 3 (some .boolean) ⟨2, 0, 0, 41⟩ [.int (iZ Y), .int (iZ M), .int (iZ dd)] ws (fun v ws' => v = some (.int (b2i (decide ((1 ≤ M ∧ M ≤ 12) ∧ 1 ≤ dd ∧ dd ≤ (dm y M.toNat : Nat))))) ∧ ws' = ws) mNo := by
  refine mCt.of (by decide +kernel) (Nat.le_of_ble_eq_true rfl) (fun X hX hE => ?_)
  replace hX : mOK X RX0 cX0_isDay 3 ⟨2, 0, 0, 41⟩ [] tys := hX
  have hdm := dm_b y M.toNat
  refine r_iload_n hX dX0_isDay_0 rfl rfl ?_
  refine r_i2lZ hX dX0_isDay_1 (by omega) ?_
  refine r_lconstZ (v := 1) hX dX0_isDay_2 rfl ?_
  refine r_ldc2Z (z := 12) hX kc_X0_15 (by decide) dX0_isDay_3 ?_
  refine r_callN hX (z_X2_isWithin _ _ _ _ _ (by omega) (by omega) (by omega)) kn_X0_17 rfl rfl (Nat.le_of_ble_eq_true rfl) ⟨(Nat.le_of_ble_eq_true rfl), (Nat.le_of_ble_eq_true rfl)⟩ ⟨(Nat.le_of_ble_eq_true rfl), (Nat.le_of_ble_eq_true rfl)⟩ dX0_isDay_6 (fun _ _ z => False.elim z) (fun v9 ws9 h1 => ?_)
  obtain ⟨rfl, hw9⟩ := h1
  subst ws9
  dsimp only [mPush]
  refine r_if_eqB (tgt := 31) hX dX0_isDay_9 (by decide) (fun c2 => ?_) (fun c2 => ?_)
  · have c2 := of_decide_eq_false c2
    refine r_iconstZ hX dX0_isDay_31 ?_
    refine r_zret hX hE dX0_isDay_32 (by decide) (Nat.le_of_ble_eq_true rfl) (Nat.le_of_ble_eq_true rfl) ⟨zb0 ?_, rfl⟩
    exact decide_eq_false (by omega)
  · have c2 := of_decide_eq_true c2
    refine r_iload_n hX dX0_isDay_12 rfl rfl ?_
    refine r_i2lZ hX dX0_isDay_13 (by omega) ?_
    refine r_lconstZ (v := 1) hX dX0_isDay_14 rfl ?_
    refine r_iload_n hX dX0_isDay_15 rfl rfl ?_
    refine r_iload_n hX dX0_isDay_16 rfl rfl ?_
    refine r_callS hX (z_X0_lengthOfMonth _ _ _ y (by omega) (by omega) _ M.toNat (by omega) (by omega)) ks_X0_21 rfl rfl (Nat.le_of_ble_eq_true rfl) ⟨(Nat.le_of_ble_eq_true rfl), (Nat.le_of_ble_eq_true rfl)⟩ ⟨(Nat.le_of_ble_eq_true rfl), (Nat.le_of_ble_eq_true rfl)⟩ dX0_isDay_17 (fun _ _ z => False.elim z) (fun v9 ws9 h3 => ?_)
    obtain ⟨rfl, hw9⟩ := h3
    subst ws9
    dsimp only [mPush]
    refine r_i2lZ hX dX0_isDay_20 (by omega) ?_
    refine r_callN hX (z_X2_isWithin _ _ _ _ _ (by omega) (by omega) (by omega)) kn_X0_17 rfl rfl (Nat.le_of_ble_eq_true rfl) ⟨(Nat.le_of_ble_eq_true rfl), (Nat.le_of_ble_eq_true rfl)⟩ ⟨(Nat.le_of_ble_eq_true rfl), (Nat.le_of_ble_eq_true rfl)⟩ dX0_isDay_21 (fun _ _ z => False.elim z) (fun v9 ws9 h4 => ?_)
    obtain ⟨rfl, hw9⟩ := h4
    subst ws9
    dsimp only [mPush]
    refine r_if_eqB (tgt := 31) hX dX0_isDay_24 (by decide) (fun c5 => ?_) (fun c5 => ?_)
    · have c5 := of_decide_eq_false c5
      refine r_iconstZ hX dX0_isDay_31 ?_
      refine r_zret hX hE dX0_isDay_32 (by decide) (Nat.le_of_ble_eq_true rfl) (Nat.le_of_ble_eq_true rfl) ⟨zb0 ?_, rfl⟩
      exact decide_eq_false (by omega)
    · have c5 := of_decide_eq_true c5
      refine r_iconstZ hX dX0_isDay_27 ?_
      refine r_goto (tgt := 32) hX dX0_isDay_28 (by decide) ?_
      refine r_zret hX hE dX0_isDay_32 (by decide) (Nat.le_of_ble_eq_true rfl) (Nat.le_of_ble_eq_true rfl) ⟨zb1 ?_, rfl⟩
      exact decide_eq_true (by omega)
set_option maxHeartbeats 4000000 in
set_option maxRecDepth 20000 in
theorem z_X0_firstDayOf (tys : List (ClassId × FieldType)) (ws : va_W) (Y : Int) (y : Nat) (hY : Y = (y : Int)) (hy : 1 ≤ y ∧ y < 2100)  : mCt tys yX0_firstDayOf cX0_firstDayOf 2 (some .int) ⟨0, 0, 0, 0⟩ [.int (iZ Y)] ws (fun v ws' => v = some (.int (iZ (FO y))) ∧ ws' = ws) mNo := by
  refine mCt.of (by decide +kernel) (Nat.le_of_ble_eq_true rfl) (fun X hX hE => ?_)
  replace hX : mOK X RX0 cX0_firstDayOf 2 ⟨0, 0, 0, 0⟩ [] tys := hX
  refine r_iload_n hX dX0_firstDayOf_0 rfl rfl ?_
  refine r_iconstZ hX dX0_firstDayOf_1 ?_
  refine r_isubZ hX dX0_firstDayOf_2 ?_
  refine r_istore_n hX dX0_firstDayOf_3 rfl (by decide) rfl ?_
  refine r_iload_n hX dX0_firstDayOf_4 rfl rfl ?_
  refine r_sipushZ hX dX0_firstDayOf_5 (by decide) ?_
  refine r_imulZ hX dX0_firstDayOf_8 ?_
  refine r_iload_n hX dX0_firstDayOf_9 rfl rfl ?_
  refine r_iconstZ hX dX0_firstDayOf_10 ?_
  refine r_idivZ hX dX0_firstDayOf_11 (by omega) (by decide) ?_
  refine r_iaddZ hX dX0_firstDayOf_12 ?_
  refine r_iload_n hX dX0_firstDayOf_13 rfl rfl ?_
  refine r_bipushZ hX dX0_firstDayOf_14 (by decide) ?_
  refine r_idivZ hX dX0_firstDayOf_16 (by omega) (by decide) ?_
  refine r_isubZ hX dX0_firstDayOf_17 ?_
  refine r_iload_n hX dX0_firstDayOf_18 rfl rfl ?_
  refine r_sipushZ hX dX0_firstDayOf_19 (by decide) ?_
  refine r_idivZ hX dX0_firstDayOf_22 (by omega) (by decide) ?_
  refine r_iaddZ hX dX0_firstDayOf_23 ?_
  refine r_ldcZ (z := 719162) hX kc_X0_25 (by decide) dX0_firstDayOf_24 ?_
  refine r_isubZ hX dX0_firstDayOf_26 ?_
  refine r_iret hX hE dX0_firstDayOf_27 (Nat.le_of_ble_eq_true rfl) (Nat.le_of_ble_eq_true rfl) ⟨zi ?_, rfl⟩
  unfold FO
  omega
set_option maxHeartbeats 4000000 in
set_option maxRecDepth 20000 in
theorem z_X0_daysBeforeMonth (tys : List (ClassId × FieldType)) (ws : va_W) (Y : Int) (y : Nat) (hY : Y = (y : Int)) (hy : 1 ≤ y ∧ y < 2100) (M : Int) (m : Nat) (hM : M = (m : Int)) (hm : 1 ≤ m ∧ m ≤ 12)  : mCt tys yX0_daysBeforeMonth cX0_daysBeforeMonth 3 (some .int) ⟨1, 0, 0, 20⟩ [.int (iZ Y), .int (iZ M)] ws (fun v ws' => v = some (.int (iZ (DB y m))) ∧ ws' = ws) mNo := by
  refine mCt.of (by decide +kernel) (Nat.le_of_ble_eq_true rfl) (fun X hX hE => ?_)
  replace hX : mOK X RX0 cX0_daysBeforeMonth 3 ⟨1, 0, 0, 20⟩ [] tys := hX
  refine r_sipushZ hX dX0_daysBeforeMonth_0 (by decide) ?_
  refine r_iload_n hX dX0_daysBeforeMonth_3 rfl rfl ?_
  refine r_imulZ hX dX0_daysBeforeMonth_4 ?_
  refine r_sipushZ hX dX0_daysBeforeMonth_5 (by decide) ?_
  refine r_isubZ hX dX0_daysBeforeMonth_8 ?_
  refine r_bipushZ hX dX0_daysBeforeMonth_9 (by decide) ?_
  refine r_idivZ hX dX0_daysBeforeMonth_11 (by omega) (by decide) ?_
  refine r_istore_n hX dX0_daysBeforeMonth_12 rfl (by decide) rfl ?_
  refine r_iload_n hX dX0_daysBeforeMonth_13 rfl rfl ?_
  refine r_iconstZ hX dX0_daysBeforeMonth_14 ?_
  refine r_icmp_gtZ (tgt := 22) hX dX0_daysBeforeMonth_15 (by decide) (by omega) (by decide) (fun c1 => ?_) (fun c1 => ?_)
  · refine r_iload_n hX dX0_daysBeforeMonth_22 rfl rfl ?_
    refine r_callS hX (z_X0_isLeap _ _ _ y (by omega) (by omega)) ks_X0_9 rfl rfl (Nat.le_of_ble_eq_true rfl) ⟨(Nat.le_of_ble_eq_true rfl), (Nat.le_of_ble_eq_true rfl)⟩ ⟨(Nat.le_of_ble_eq_true rfl), (Nat.le_of_ble_eq_true rfl)⟩ dX0_daysBeforeMonth_23 (fun _ _ z => False.elim z) (fun v9 ws9 h2 => ?_)
    obtain ⟨rfl, hw9⟩ := h2
    subst ws9
    dsimp only [mPush]
    refine r_if_eqB (tgt := 35) hX dX0_daysBeforeMonth_26 (by decide) (fun c3 => ?_) (fun c3 => ?_)
    · have c3 := id c3
      refine r_iload_n hX dX0_daysBeforeMonth_35 rfl rfl ?_
      refine r_iconstZ hX dX0_daysBeforeMonth_36 ?_
      refine r_isubZ hX dX0_daysBeforeMonth_37 ?_
      refine r_iret hX hE dX0_daysBeforeMonth_38 (Nat.le_of_ble_eq_true rfl) (Nat.le_of_ble_eq_true rfl) ⟨zi ?_, rfl⟩
      rw [DB_line hm.1 hm.2]
      rw [if_neg (by omega), if_neg (by simp [*])]
      omega
    · have c3 := id c3
      refine r_iload_n hX dX0_daysBeforeMonth_29 rfl rfl ?_
      refine r_iconstZ hX dX0_daysBeforeMonth_30 ?_
      refine r_isubZ hX dX0_daysBeforeMonth_31 ?_
      refine r_goto (tgt := 38) hX dX0_daysBeforeMonth_32 (by decide) ?_
      refine r_iret hX hE dX0_daysBeforeMonth_38 (Nat.le_of_ble_eq_true rfl) (Nat.le_of_ble_eq_true rfl) ⟨zi ?_, rfl⟩
      rw [DB_line hm.1 hm.2]
      rw [if_neg (by omega), if_pos (by assumption)]
      omega
  · refine r_iload_n hX dX0_daysBeforeMonth_18 rfl rfl ?_
    refine r_goto (tgt := 38) hX dX0_daysBeforeMonth_19 (by decide) ?_
    refine r_iret hX hE dX0_daysBeforeMonth_38 (Nat.le_of_ble_eq_true rfl) (Nat.le_of_ble_eq_true rfl) ⟨zi ?_, rfl⟩
    rw [DB_line hm.1 hm.2]
    rw [if_pos (by omega)]
    omega
set_option maxHeartbeats 4000000 in
set_option maxRecDepth 20000 in
theorem z_X0_dayOf (tys : List (ClassId × FieldType)) (ws : va_W) (Y : Int) (y : Nat) (hY : Y = (y : Int)) (hy : 1 ≤ y ∧ y < 2100) (M : Int) (m : Nat) (hM : M = (m : Int)) (hm : 1 ≤ m ∧ m ≤ 12) (dd : Int)  : mCt tys yX0_dayOf cX0_dayOf 3 (some .int) ⟨2, 0, 0, 42⟩ [.int (iZ Y), .int (iZ M), .int (iZ dd)] ws (fun v ws' => v = some (.int (iZ (FO y + DB y m + dd - 1))) ∧ ws' = ws) mNo := by
  refine mCt.of (by decide +kernel) (Nat.le_of_ble_eq_true rfl) (fun X hX hE => ?_)
  replace hX : mOK X RX0 cX0_dayOf 3 ⟨2, 0, 0, 42⟩ [] tys := hX
  refine r_iload_n hX dX0_dayOf_0 rfl rfl ?_
  refine r_callS hX (z_X0_firstDayOf _ _ _ y (by omega) (by omega)) ks_X0_26 rfl rfl (Nat.le_of_ble_eq_true rfl) ⟨(Nat.le_of_ble_eq_true rfl), (Nat.le_of_ble_eq_true rfl)⟩ ⟨(Nat.le_of_ble_eq_true rfl), (Nat.le_of_ble_eq_true rfl)⟩ dX0_dayOf_1 (fun _ _ z => False.elim z) (fun v9 ws9 h1 => ?_)
  obtain ⟨rfl, hw9⟩ := h1
  subst ws9
  dsimp only [mPush]
  refine r_iload_n hX dX0_dayOf_4 rfl rfl ?_
  refine r_iload_n hX dX0_dayOf_5 rfl rfl ?_
  refine r_callS hX (z_X0_daysBeforeMonth _ _ _ y (by omega) (by omega) _ m (by omega) (by omega)) ks_X0_30 rfl rfl (Nat.le_of_ble_eq_true rfl) ⟨(Nat.le_of_ble_eq_true rfl), (Nat.le_of_ble_eq_true rfl)⟩ ⟨(Nat.le_of_ble_eq_true rfl), (Nat.le_of_ble_eq_true rfl)⟩ dX0_dayOf_6 (fun _ _ z => False.elim z) (fun v9 ws9 h2 => ?_)
  obtain ⟨rfl, hw9⟩ := h2
  subst ws9
  dsimp only [mPush]
  refine r_iaddZ hX dX0_dayOf_9 ?_
  refine r_iload_n hX dX0_dayOf_10 rfl rfl ?_
  refine r_iaddZ hX dX0_dayOf_11 ?_
  refine r_iconstZ hX dX0_dayOf_12 ?_
  refine r_isubZ hX dX0_dayOf_13 ?_
  refine r_iret hX hE dX0_dayOf_14 (Nat.le_of_ble_eq_true rfl) (Nat.le_of_ble_eq_true rfl) ⟨zi ?_, rfl⟩
  rfl
set_option maxHeartbeats 4000000 in
set_option maxRecDepth 20000 in
theorem z_X0_yearOf (tys : List (ClassId × FieldType)) (ws : va_W) (d : Int) (hd : -21915 ≤ d ∧ d ≤ 22279)  : mCt tys yX0_yearOf cX0_yearOf 2 (some .int) ⟨1, 0, 0, 21⟩ [.int (iZ d)] ws (fun v ws' => v = some (.int (iZ (YR d : Nat))) ∧ ws' = ws) mNo := by
  refine mCt.of (by decide +kernel) (Nat.le_of_ble_eq_true rfl) (fun X hX hE => ?_)
  replace hX : mOK X RX0 cX0_yearOf 2 ⟨1, 0, 0, 21⟩ [] tys := hX
  have hb := FO_b (y := (1910 + ((d + 21915) / 366).toNat + 1)) (by omega)
  refine r_sipushZ hX dX0_yearOf_0 (by decide) ?_
  refine r_iload_n hX dX0_yearOf_3 rfl rfl ?_
  refine r_sipushZ hX dX0_yearOf_4 (by decide) ?_
  refine r_isubZ hX dX0_yearOf_7 ?_
  refine r_sipushZ hX dX0_yearOf_8 (by decide) ?_
  refine r_idivZ hX dX0_yearOf_11 (by omega) (by decide) ?_
  refine r_iaddZ hX dX0_yearOf_12 ?_
  refine r_istore_n hX dX0_yearOf_13 rfl (by decide) rfl ?_
  refine r_iload_n hX dX0_yearOf_14 rfl rfl ?_
  refine r_iload_n hX dX0_yearOf_15 rfl rfl ?_
  refine r_iconstZ hX dX0_yearOf_16 ?_
  refine r_iaddZ hX dX0_yearOf_17 ?_
  refine r_callS hX (z_X0_firstDayOf _ _ _ (1910 + ((d + 21915) / 366).toNat + 1) (by omega) (by omega)) ks_X0_26 rfl rfl (Nat.le_of_ble_eq_true rfl) ⟨(Nat.le_of_ble_eq_true rfl), (Nat.le_of_ble_eq_true rfl)⟩ ⟨(Nat.le_of_ble_eq_true rfl), (Nat.le_of_ble_eq_true rfl)⟩ dX0_yearOf_18 (fun _ _ z => False.elim z) (fun v9 ws9 h1 => ?_)
  obtain ⟨rfl, hw9⟩ := h1
  subst ws9
  dsimp only [mPush]
  refine r_icmp_geZ (tgt := 28) hX dX0_yearOf_21 (by decide) (by omega) (by omega) (fun c2 => ?_) (fun c2 => ?_)
  · refine r_iload_n hX dX0_yearOf_28 rfl rfl ?_
    refine r_iconstZ hX dX0_yearOf_29 ?_
    refine r_iaddZ hX dX0_yearOf_30 ?_
    refine r_iret hX hE dX0_yearOf_31 (Nat.le_of_ble_eq_true rfl) (Nat.le_of_ble_eq_true rfl) ⟨zi ?_, rfl⟩
    unfold YR
    rw [if_neg (by omega)]
    omega
  · refine r_iload_n hX dX0_yearOf_24 rfl rfl ?_
    refine r_goto (tgt := 31) hX dX0_yearOf_25 (by decide) ?_
    refine r_iret hX hE dX0_yearOf_31 (Nat.le_of_ble_eq_true rfl) (Nat.le_of_ble_eq_true rfl) ⟨zi ?_, rfl⟩
    unfold YR
    rw [if_pos (by omega)]
    omega
set_option maxHeartbeats 4000000 in
set_option maxRecDepth 20000 in
theorem z_X0_dayOfYear (tys : List (ClassId × FieldType)) (ws : va_W) (d : Int) (hd : -21915 ≤ d ∧ d ≤ 22279)  : mCt tys yX0_dayOfYear cX0_dayOfYear 1 (some .int) ⟨2, 0, 0, 42⟩ [.int (iZ d)] ws (fun v ws' => v = some (.int (iZ (d - FO (YR d) + 1))) ∧ ws' = ws) mNo := by
  refine mCt.of (by decide +kernel) (Nat.le_of_ble_eq_true rfl) (fun X hX hE => ?_)
  replace hX : mOK X RX0 cX0_dayOfYear 1 ⟨2, 0, 0, 42⟩ [] tys := hX
  have hs := YR_spec hd.1 hd.2
  have hb := FO_b (y := YR d) (by omega)
  have hn := FO_s (y := YR d) (by omega)
  have hl := yl_b (YR d)
  refine r_iload_n hX dX0_dayOfYear_0 rfl rfl ?_
  refine r_iload_n hX dX0_dayOfYear_1 rfl rfl ?_
  refine r_callS hX (z_X0_yearOf _ _ _ (by omega)) ks_X0_33 rfl rfl (Nat.le_of_ble_eq_true rfl) ⟨(Nat.le_of_ble_eq_true rfl), (Nat.le_of_ble_eq_true rfl)⟩ ⟨(Nat.le_of_ble_eq_true rfl), (Nat.le_of_ble_eq_true rfl)⟩ dX0_dayOfYear_2 (fun _ _ z => False.elim z) (fun v9 ws9 h1 => ?_)
  obtain ⟨rfl, hw9⟩ := h1
  subst ws9
  dsimp only [mPush]
  refine r_callS hX (z_X0_firstDayOf _ _ _ (YR d) (by omega) (by omega)) ks_X0_26 rfl rfl (Nat.le_of_ble_eq_true rfl) ⟨(Nat.le_of_ble_eq_true rfl), (Nat.le_of_ble_eq_true rfl)⟩ ⟨(Nat.le_of_ble_eq_true rfl), (Nat.le_of_ble_eq_true rfl)⟩ dX0_dayOfYear_5 (fun _ _ z => False.elim z) (fun v9 ws9 h2 => ?_)
  obtain ⟨rfl, hw9⟩ := h2
  subst ws9
  dsimp only [mPush]
  refine r_isubZ hX dX0_dayOfYear_8 ?_
  refine r_iconstZ hX dX0_dayOfYear_9 ?_
  refine r_iaddZ hX dX0_dayOfYear_10 ?_
  refine r_iret hX hE dX0_dayOfYear_11 (Nat.le_of_ble_eq_true rfl) (Nat.le_of_ble_eq_true rfl) ⟨zi ?_, rfl⟩
  rfl
set_option maxHeartbeats 4000000 in
set_option maxRecDepth 20000 in
theorem z_X0_monthOf (tys : List (ClassId × FieldType)) (ws : va_W) (d : Int) (hd : -21915 ≤ d ∧ d ≤ 22279)  : mCt tys yX0_monthOf cX0_monthOf 4 (some .int) ⟨2, 0, 0, 42⟩ [.int (iZ d)] ws (fun v ws' => v = some (.int (iZ (MO d : Nat))) ∧ ws' = ws) mNo := by
  refine mCt.of (by decide +kernel) (Nat.le_of_ble_eq_true rfl) (fun X hX hE => ?_)
  replace hX : mOK X RX0 cX0_monthOf 4 ⟨2, 0, 0, 42⟩ [] tys := hX
  have hs := YR_spec hd.1 hd.2
  have hb := FO_b (y := YR d) (by omega)
  have hn := FO_s (y := YR d) (by omega)
  have hl := yl_b (YR d)
  have hB2 := DB_b (y := YR d) (m := 2) (by omega)
  have hB3 := DB_b (y := YR d) (m := 3) (by omega)
  have hB4 := DB_b (y := YR d) (m := 4) (by omega)
  have hB5 := DB_b (y := YR d) (m := 5) (by omega)
  have hB6 := DB_b (y := YR d) (m := 6) (by omega)
  have hB7 := DB_b (y := YR d) (m := 7) (by omega)
  have hB8 := DB_b (y := YR d) (m := 8) (by omega)
  have hB9 := DB_b (y := YR d) (m := 9) (by omega)
  have hB10 := DB_b (y := YR d) (m := 10) (by omega)
  have hB11 := DB_b (y := YR d) (m := 11) (by omega)
  have hB12 := DB_b (y := YR d) (m := 12) (by omega)
  refine r_iload_n hX dX0_monthOf_0 rfl rfl ?_
  refine r_callS hX (z_X0_yearOf _ _ _ (by omega)) ks_X0_33 rfl rfl (Nat.le_of_ble_eq_true rfl) ⟨(Nat.le_of_ble_eq_true rfl), (Nat.le_of_ble_eq_true rfl)⟩ ⟨(Nat.le_of_ble_eq_true rfl), (Nat.le_of_ble_eq_true rfl)⟩ dX0_monthOf_1 (fun _ _ z => False.elim z) (fun v9 ws9 h1 => ?_)
  obtain ⟨rfl, hw9⟩ := h1
  subst ws9
  dsimp only [mPush]
  refine r_istore_n hX dX0_monthOf_4 rfl (by decide) rfl ?_
  refine r_iload_n hX dX0_monthOf_5 rfl rfl ?_
  refine r_iload_n hX dX0_monthOf_6 rfl rfl ?_
  refine r_callS hX (z_X0_firstDayOf _ _ _ (YR d) (by omega) (by omega)) ks_X0_26 rfl rfl (Nat.le_of_ble_eq_true rfl) ⟨(Nat.le_of_ble_eq_true rfl), (Nat.le_of_ble_eq_true rfl)⟩ ⟨(Nat.le_of_ble_eq_true rfl), (Nat.le_of_ble_eq_true rfl)⟩ dX0_monthOf_7 (fun _ _ z => False.elim z) (fun v9 ws9 h2 => ?_)
  obtain ⟨rfl, hw9⟩ := h2
  subst ws9
  dsimp only [mPush]
  refine r_isubZ hX dX0_monthOf_10 ?_
  refine r_istore_n hX dX0_monthOf_11 rfl (by decide) rfl ?_
  refine r_iconstZ hX dX0_monthOf_12 ?_
  refine r_istore_n hX dX0_monthOf_13 rfl (by decide) rfl ?_
  refine r_iload_n hX dX0_monthOf_14 rfl rfl ?_
  refine r_bipushZ hX dX0_monthOf_15 (by decide) ?_
  refine r_icmp_geZ (tgt := 37) hX dX0_monthOf_17 (by decide) (by decide) (by decide) (fun q => absurd q (by decide)) (fun _ => ?_)
  refine r_iload_n hX dX0_monthOf_20 rfl rfl ?_
  refine r_iload_n hX dX0_monthOf_21 rfl rfl ?_
  refine r_iload_n hX dX0_monthOf_22 rfl rfl ?_
  refine r_iconstZ hX dX0_monthOf_23 ?_
  refine r_iaddZ hX dX0_monthOf_24 ?_
  refine r_callS hX (z_X0_daysBeforeMonth _ _ _ (YR d) (by omega) (by omega) _ 2 (by omega) (by omega)) ks_X0_30 rfl rfl (Nat.le_of_ble_eq_true rfl) ⟨(Nat.le_of_ble_eq_true rfl), (Nat.le_of_ble_eq_true rfl)⟩ ⟨(Nat.le_of_ble_eq_true rfl), (Nat.le_of_ble_eq_true rfl)⟩ dX0_monthOf_25 (fun _ _ z => False.elim z) (fun v9 ws9 h3 => ?_)
  obtain ⟨rfl, hw9⟩ := h3
  subst ws9
  dsimp only [mPush]
  refine r_icmp_ltZ (tgt := 37) hX dX0_monthOf_28 (by decide) (by omega) (by omega) (fun c4 => ?_) (fun c4 => ?_)
  · refine r_iload_n hX dX0_monthOf_37 rfl rfl ?_
    refine r_iret hX hE dX0_monthOf_38 (Nat.le_of_ble_eq_true rfl) (Nat.le_of_ble_eq_true rfl) ⟨zi ?_, rfl⟩
    show (1 : Int) = ((MOy (YR d) (d - FO (YR d)) : Nat) : Int)
    unfold MOy
    rw [if_pos (by omega)]
    rfl
  · refine r_iincZ (z := 1) (y := 2) hX dX0_monthOf_31 rfl (by decide) rfl rfl ?_
    refine r_goto (tgt := 14) hX dX0_monthOf_34 (by decide) ?_
    refine r_iload_n hX dX0_monthOf_14 rfl rfl ?_
    refine r_bipushZ hX dX0_monthOf_15 (by decide) ?_
    refine r_icmp_geZ (tgt := 37) hX dX0_monthOf_17 (by decide) (by decide) (by decide) (fun q => absurd q (by decide)) (fun _ => ?_)
    refine r_iload_n hX dX0_monthOf_20 rfl rfl ?_
    refine r_iload_n hX dX0_monthOf_21 rfl rfl ?_
    refine r_iload_n hX dX0_monthOf_22 rfl rfl ?_
    refine r_iconstZ hX dX0_monthOf_23 ?_
    refine r_iaddZ hX dX0_monthOf_24 ?_
    refine r_callS hX (z_X0_daysBeforeMonth _ _ _ (YR d) (by omega) (by omega) _ 3 (by omega) (by omega)) ks_X0_30 rfl rfl (Nat.le_of_ble_eq_true rfl) ⟨(Nat.le_of_ble_eq_true rfl), (Nat.le_of_ble_eq_true rfl)⟩ ⟨(Nat.le_of_ble_eq_true rfl), (Nat.le_of_ble_eq_true rfl)⟩ dX0_monthOf_25 (fun _ _ z => False.elim z) (fun v9 ws9 h5 => ?_)
    obtain ⟨rfl, hw9⟩ := h5
    subst ws9
    dsimp only [mPush]
    refine r_icmp_ltZ (tgt := 37) hX dX0_monthOf_28 (by decide) (by omega) (by omega) (fun c6 => ?_) (fun c6 => ?_)
    · refine r_iload_n hX dX0_monthOf_37 rfl rfl ?_
      refine r_iret hX hE dX0_monthOf_38 (Nat.le_of_ble_eq_true rfl) (Nat.le_of_ble_eq_true rfl) ⟨zi ?_, rfl⟩
      show (2 : Int) = ((MOy (YR d) (d - FO (YR d)) : Nat) : Int)
      unfold MOy
      rw [if_neg (by omega)]
      rw [if_pos (by omega)]
      rfl
    · refine r_iincZ (z := 1) (y := 3) hX dX0_monthOf_31 rfl (by decide) rfl rfl ?_
      refine r_goto (tgt := 14) hX dX0_monthOf_34 (by decide) ?_
      refine r_iload_n hX dX0_monthOf_14 rfl rfl ?_
      refine r_bipushZ hX dX0_monthOf_15 (by decide) ?_
      refine r_icmp_geZ (tgt := 37) hX dX0_monthOf_17 (by decide) (by decide) (by decide) (fun q => absurd q (by decide)) (fun _ => ?_)
      refine r_iload_n hX dX0_monthOf_20 rfl rfl ?_
      refine r_iload_n hX dX0_monthOf_21 rfl rfl ?_
      refine r_iload_n hX dX0_monthOf_22 rfl rfl ?_
      refine r_iconstZ hX dX0_monthOf_23 ?_
      refine r_iaddZ hX dX0_monthOf_24 ?_
      refine r_callS hX (z_X0_daysBeforeMonth _ _ _ (YR d) (by omega) (by omega) _ 4 (by omega) (by omega)) ks_X0_30 rfl rfl (Nat.le_of_ble_eq_true rfl) ⟨(Nat.le_of_ble_eq_true rfl), (Nat.le_of_ble_eq_true rfl)⟩ ⟨(Nat.le_of_ble_eq_true rfl), (Nat.le_of_ble_eq_true rfl)⟩ dX0_monthOf_25 (fun _ _ z => False.elim z) (fun v9 ws9 h7 => ?_)
      obtain ⟨rfl, hw9⟩ := h7
      subst ws9
      dsimp only [mPush]
      refine r_icmp_ltZ (tgt := 37) hX dX0_monthOf_28 (by decide) (by omega) (by omega) (fun c8 => ?_) (fun c8 => ?_)
      · refine r_iload_n hX dX0_monthOf_37 rfl rfl ?_
        refine r_iret hX hE dX0_monthOf_38 (Nat.le_of_ble_eq_true rfl) (Nat.le_of_ble_eq_true rfl) ⟨zi ?_, rfl⟩
        show (3 : Int) = ((MOy (YR d) (d - FO (YR d)) : Nat) : Int)
        unfold MOy
        rw [if_neg (by omega)]
        rw [if_neg (by omega)]
        rw [if_pos (by omega)]
        rfl
      · refine r_iincZ (z := 1) (y := 4) hX dX0_monthOf_31 rfl (by decide) rfl rfl ?_
        refine r_goto (tgt := 14) hX dX0_monthOf_34 (by decide) ?_
        refine r_iload_n hX dX0_monthOf_14 rfl rfl ?_
        refine r_bipushZ hX dX0_monthOf_15 (by decide) ?_
        refine r_icmp_geZ (tgt := 37) hX dX0_monthOf_17 (by decide) (by decide) (by decide) (fun q => absurd q (by decide)) (fun _ => ?_)
        refine r_iload_n hX dX0_monthOf_20 rfl rfl ?_
        refine r_iload_n hX dX0_monthOf_21 rfl rfl ?_
        refine r_iload_n hX dX0_monthOf_22 rfl rfl ?_
        refine r_iconstZ hX dX0_monthOf_23 ?_
        refine r_iaddZ hX dX0_monthOf_24 ?_
        refine r_callS hX (z_X0_daysBeforeMonth _ _ _ (YR d) (by omega) (by omega) _ 5 (by omega) (by omega)) ks_X0_30 rfl rfl (Nat.le_of_ble_eq_true rfl) ⟨(Nat.le_of_ble_eq_true rfl), (Nat.le_of_ble_eq_true rfl)⟩ ⟨(Nat.le_of_ble_eq_true rfl), (Nat.le_of_ble_eq_true rfl)⟩ dX0_monthOf_25 (fun _ _ z => False.elim z) (fun v9 ws9 h9 => ?_)
        obtain ⟨rfl, hw9⟩ := h9
        subst ws9
        dsimp only [mPush]
        refine r_icmp_ltZ (tgt := 37) hX dX0_monthOf_28 (by decide) (by omega) (by omega) (fun c10 => ?_) (fun c10 => ?_)
        · refine r_iload_n hX dX0_monthOf_37 rfl rfl ?_
          refine r_iret hX hE dX0_monthOf_38 (Nat.le_of_ble_eq_true rfl) (Nat.le_of_ble_eq_true rfl) ⟨zi ?_, rfl⟩
          show (4 : Int) = ((MOy (YR d) (d - FO (YR d)) : Nat) : Int)
          unfold MOy
          rw [if_neg (by omega)]
          rw [if_neg (by omega)]
          rw [if_neg (by omega)]
          rw [if_pos (by omega)]
          rfl
        · refine r_iincZ (z := 1) (y := 5) hX dX0_monthOf_31 rfl (by decide) rfl rfl ?_
          refine r_goto (tgt := 14) hX dX0_monthOf_34 (by decide) ?_
          refine r_iload_n hX dX0_monthOf_14 rfl rfl ?_
          refine r_bipushZ hX dX0_monthOf_15 (by decide) ?_
          refine r_icmp_geZ (tgt := 37) hX dX0_monthOf_17 (by decide) (by decide) (by decide) (fun q => absurd q (by decide)) (fun _ => ?_)
          refine r_iload_n hX dX0_monthOf_20 rfl rfl ?_
          refine r_iload_n hX dX0_monthOf_21 rfl rfl ?_
          refine r_iload_n hX dX0_monthOf_22 rfl rfl ?_
          refine r_iconstZ hX dX0_monthOf_23 ?_
          refine r_iaddZ hX dX0_monthOf_24 ?_
          refine r_callS hX (z_X0_daysBeforeMonth _ _ _ (YR d) (by omega) (by omega) _ 6 (by omega) (by omega)) ks_X0_30 rfl rfl (Nat.le_of_ble_eq_true rfl) ⟨(Nat.le_of_ble_eq_true rfl), (Nat.le_of_ble_eq_true rfl)⟩ ⟨(Nat.le_of_ble_eq_true rfl), (Nat.le_of_ble_eq_true rfl)⟩ dX0_monthOf_25 (fun _ _ z => False.elim z) (fun v9 ws9 h11 => ?_)
          obtain ⟨rfl, hw9⟩ := h11
          subst ws9
          dsimp only [mPush]
          refine r_icmp_ltZ (tgt := 37) hX dX0_monthOf_28 (by decide) (by omega) (by omega) (fun c12 => ?_) (fun c12 => ?_)
          · refine r_iload_n hX dX0_monthOf_37 rfl rfl ?_
            refine r_iret hX hE dX0_monthOf_38 (Nat.le_of_ble_eq_true rfl) (Nat.le_of_ble_eq_true rfl) ⟨zi ?_, rfl⟩
            show (5 : Int) = ((MOy (YR d) (d - FO (YR d)) : Nat) : Int)
            unfold MOy
            rw [if_neg (by omega)]
            rw [if_neg (by omega)]
            rw [if_neg (by omega)]
            rw [if_neg (by omega)]
            rw [if_pos (by omega)]
            rfl
          · refine r_iincZ (z := 1) (y := 6) hX dX0_monthOf_31 rfl (by decide) rfl rfl ?_
            refine r_goto (tgt := 14) hX dX0_monthOf_34 (by decide) ?_
            refine r_iload_n hX dX0_monthOf_14 rfl rfl ?_
            refine r_bipushZ hX dX0_monthOf_15 (by decide) ?_
            refine r_icmp_geZ (tgt := 37) hX dX0_monthOf_17 (by decide) (by decide) (by decide) (fun q => absurd q (by decide)) (fun _ => ?_)
            refine r_iload_n hX dX0_monthOf_20 rfl rfl ?_
            refine r_iload_n hX dX0_monthOf_21 rfl rfl ?_
            refine r_iload_n hX dX0_monthOf_22 rfl rfl ?_
            refine r_iconstZ hX dX0_monthOf_23 ?_
            refine r_iaddZ hX dX0_monthOf_24 ?_
            refine r_callS hX (z_X0_daysBeforeMonth _ _ _ (YR d) (by omega) (by omega) _ 7 (by omega) (by omega)) ks_X0_30 rfl rfl (Nat.le_of_ble_eq_true rfl) ⟨(Nat.le_of_ble_eq_true rfl), (Nat.le_of_ble_eq_true rfl)⟩ ⟨(Nat.le_of_ble_eq_true rfl), (Nat.le_of_ble_eq_true rfl)⟩ dX0_monthOf_25 (fun _ _ z => False.elim z) (fun v9 ws9 h13 => ?_)
            obtain ⟨rfl, hw9⟩ := h13
            subst ws9
            dsimp only [mPush]
            refine r_icmp_ltZ (tgt := 37) hX dX0_monthOf_28 (by decide) (by omega) (by omega) (fun c14 => ?_) (fun c14 => ?_)
            · refine r_iload_n hX dX0_monthOf_37 rfl rfl ?_
              refine r_iret hX hE dX0_monthOf_38 (Nat.le_of_ble_eq_true rfl) (Nat.le_of_ble_eq_true rfl) ⟨zi ?_, rfl⟩
              show (6 : Int) = ((MOy (YR d) (d - FO (YR d)) : Nat) : Int)
              unfold MOy
              rw [if_neg (by omega)]
              rw [if_neg (by omega)]
              rw [if_neg (by omega)]
              rw [if_neg (by omega)]
              rw [if_neg (by omega)]
              rw [if_pos (by omega)]
              rfl
            · refine r_iincZ (z := 1) (y := 7) hX dX0_monthOf_31 rfl (by decide) rfl rfl ?_
              refine r_goto (tgt := 14) hX dX0_monthOf_34 (by decide) ?_
              refine r_iload_n hX dX0_monthOf_14 rfl rfl ?_
              refine r_bipushZ hX dX0_monthOf_15 (by decide) ?_
              refine r_icmp_geZ (tgt := 37) hX dX0_monthOf_17 (by decide) (by decide) (by decide) (fun q => absurd q (by decide)) (fun _ => ?_)
              refine r_iload_n hX dX0_monthOf_20 rfl rfl ?_
              refine r_iload_n hX dX0_monthOf_21 rfl rfl ?_
              refine r_iload_n hX dX0_monthOf_22 rfl rfl ?_
              refine r_iconstZ hX dX0_monthOf_23 ?_
              refine r_iaddZ hX dX0_monthOf_24 ?_
              refine r_callS hX (z_X0_daysBeforeMonth _ _ _ (YR d) (by omega) (by omega) _ 8 (by omega) (by omega)) ks_X0_30 rfl rfl (Nat.le_of_ble_eq_true rfl) ⟨(Nat.le_of_ble_eq_true rfl), (Nat.le_of_ble_eq_true rfl)⟩ ⟨(Nat.le_of_ble_eq_true rfl), (Nat.le_of_ble_eq_true rfl)⟩ dX0_monthOf_25 (fun _ _ z => False.elim z) (fun v9 ws9 h15 => ?_)
              obtain ⟨rfl, hw9⟩ := h15
              subst ws9
              dsimp only [mPush]
              refine r_icmp_ltZ (tgt := 37) hX dX0_monthOf_28 (by decide) (by omega) (by omega) (fun c16 => ?_) (fun c16 => ?_)
              · refine r_iload_n hX dX0_monthOf_37 rfl rfl ?_
                refine r_iret hX hE dX0_monthOf_38 (Nat.le_of_ble_eq_true rfl) (Nat.le_of_ble_eq_true rfl) ⟨zi ?_, rfl⟩
                show (7 : Int) = ((MOy (YR d) (d - FO (YR d)) : Nat) : Int)
                unfold MOy
                rw [if_neg (by omega)]
                rw [if_neg (by omega)]
                rw [if_neg (by omega)]
                rw [if_neg (by omega)]
                rw [if_neg (by omega)]
                rw [if_neg (by omega)]
                rw [if_pos (by omega)]
                rfl
              · refine r_iincZ (z := 1) (y := 8) hX dX0_monthOf_31 rfl (by decide) rfl rfl ?_
                refine r_goto (tgt := 14) hX dX0_monthOf_34 (by decide) ?_
                refine r_iload_n hX dX0_monthOf_14 rfl rfl ?_
                refine r_bipushZ hX dX0_monthOf_15 (by decide) ?_
                refine r_icmp_geZ (tgt := 37) hX dX0_monthOf_17 (by decide) (by decide) (by decide) (fun q => absurd q (by decide)) (fun _ => ?_)
                refine r_iload_n hX dX0_monthOf_20 rfl rfl ?_
                refine r_iload_n hX dX0_monthOf_21 rfl rfl ?_
                refine r_iload_n hX dX0_monthOf_22 rfl rfl ?_
                refine r_iconstZ hX dX0_monthOf_23 ?_
                refine r_iaddZ hX dX0_monthOf_24 ?_
                refine r_callS hX (z_X0_daysBeforeMonth _ _ _ (YR d) (by omega) (by omega) _ 9 (by omega) (by omega)) ks_X0_30 rfl rfl (Nat.le_of_ble_eq_true rfl) ⟨(Nat.le_of_ble_eq_true rfl), (Nat.le_of_ble_eq_true rfl)⟩ ⟨(Nat.le_of_ble_eq_true rfl), (Nat.le_of_ble_eq_true rfl)⟩ dX0_monthOf_25 (fun _ _ z => False.elim z) (fun v9 ws9 h17 => ?_)
                obtain ⟨rfl, hw9⟩ := h17
                subst ws9
                dsimp only [mPush]
                refine r_icmp_ltZ (tgt := 37) hX dX0_monthOf_28 (by decide) (by omega) (by omega) (fun c18 => ?_) (fun c18 => ?_)
                · refine r_iload_n hX dX0_monthOf_37 rfl rfl ?_
                  refine r_iret hX hE dX0_monthOf_38 (Nat.le_of_ble_eq_true rfl) (Nat.le_of_ble_eq_true rfl) ⟨zi ?_, rfl⟩
                  show (8 : Int) = ((MOy (YR d) (d - FO (YR d)) : Nat) : Int)
                  unfold MOy
                  rw [if_neg (by omega)]
                  rw [if_neg (by omega)]
                  rw [if_neg (by omega)]
                  rw [if_neg (by omega)]
                  rw [if_neg (by omega)]
                  rw [if_neg (by omega)]
                  rw [if_neg (by omega)]
                  rw [if_pos (by omega)]
                  rfl
                · refine r_iincZ (z := 1) (y := 9) hX dX0_monthOf_31 rfl (by decide) rfl rfl ?_
                  refine r_goto (tgt := 14) hX dX0_monthOf_34 (by decide) ?_
                  refine r_iload_n hX dX0_monthOf_14 rfl rfl ?_
                  refine r_bipushZ hX dX0_monthOf_15 (by decide) ?_
                  refine r_icmp_geZ (tgt := 37) hX dX0_monthOf_17 (by decide) (by decide) (by decide) (fun q => absurd q (by decide)) (fun _ => ?_)
                  refine r_iload_n hX dX0_monthOf_20 rfl rfl ?_
                  refine r_iload_n hX dX0_monthOf_21 rfl rfl ?_
                  refine r_iload_n hX dX0_monthOf_22 rfl rfl ?_
                  refine r_iconstZ hX dX0_monthOf_23 ?_
                  refine r_iaddZ hX dX0_monthOf_24 ?_
                  refine r_callS hX (z_X0_daysBeforeMonth _ _ _ (YR d) (by omega) (by omega) _ 10 (by omega) (by omega)) ks_X0_30 rfl rfl (Nat.le_of_ble_eq_true rfl) ⟨(Nat.le_of_ble_eq_true rfl), (Nat.le_of_ble_eq_true rfl)⟩ ⟨(Nat.le_of_ble_eq_true rfl), (Nat.le_of_ble_eq_true rfl)⟩ dX0_monthOf_25 (fun _ _ z => False.elim z) (fun v9 ws9 h19 => ?_)
                  obtain ⟨rfl, hw9⟩ := h19
                  subst ws9
                  dsimp only [mPush]
                  refine r_icmp_ltZ (tgt := 37) hX dX0_monthOf_28 (by decide) (by omega) (by omega) (fun c20 => ?_) (fun c20 => ?_)
                  · refine r_iload_n hX dX0_monthOf_37 rfl rfl ?_
                    refine r_iret hX hE dX0_monthOf_38 (Nat.le_of_ble_eq_true rfl) (Nat.le_of_ble_eq_true rfl) ⟨zi ?_, rfl⟩
                    show (9 : Int) = ((MOy (YR d) (d - FO (YR d)) : Nat) : Int)
                    unfold MOy
                    rw [if_neg (by omega)]
                    rw [if_neg (by omega)]
                    rw [if_neg (by omega)]
                    rw [if_neg (by omega)]
                    rw [if_neg (by omega)]
                    rw [if_neg (by omega)]
                    rw [if_neg (by omega)]
                    rw [if_neg (by omega)]
                    rw [if_pos (by omega)]
                    rfl
                  · refine r_iincZ (z := 1) (y := 10) hX dX0_monthOf_31 rfl (by decide) rfl rfl ?_
                    refine r_goto (tgt := 14) hX dX0_monthOf_34 (by decide) ?_
                    refine r_iload_n hX dX0_monthOf_14 rfl rfl ?_
                    refine r_bipushZ hX dX0_monthOf_15 (by decide) ?_
                    refine r_icmp_geZ (tgt := 37) hX dX0_monthOf_17 (by decide) (by decide) (by decide) (fun q => absurd q (by decide)) (fun _ => ?_)
                    refine r_iload_n hX dX0_monthOf_20 rfl rfl ?_
                    refine r_iload_n hX dX0_monthOf_21 rfl rfl ?_
                    refine r_iload_n hX dX0_monthOf_22 rfl rfl ?_
                    refine r_iconstZ hX dX0_monthOf_23 ?_
                    refine r_iaddZ hX dX0_monthOf_24 ?_
                    refine r_callS hX (z_X0_daysBeforeMonth _ _ _ (YR d) (by omega) (by omega) _ 11 (by omega) (by omega)) ks_X0_30 rfl rfl (Nat.le_of_ble_eq_true rfl) ⟨(Nat.le_of_ble_eq_true rfl), (Nat.le_of_ble_eq_true rfl)⟩ ⟨(Nat.le_of_ble_eq_true rfl), (Nat.le_of_ble_eq_true rfl)⟩ dX0_monthOf_25 (fun _ _ z => False.elim z) (fun v9 ws9 h21 => ?_)
                    obtain ⟨rfl, hw9⟩ := h21
                    subst ws9
                    dsimp only [mPush]
                    refine r_icmp_ltZ (tgt := 37) hX dX0_monthOf_28 (by decide) (by omega) (by omega) (fun c22 => ?_) (fun c22 => ?_)
                    · refine r_iload_n hX dX0_monthOf_37 rfl rfl ?_
                      refine r_iret hX hE dX0_monthOf_38 (Nat.le_of_ble_eq_true rfl) (Nat.le_of_ble_eq_true rfl) ⟨zi ?_, rfl⟩
                      show (10 : Int) = ((MOy (YR d) (d - FO (YR d)) : Nat) : Int)
                      unfold MOy
                      rw [if_neg (by omega)]
                      rw [if_neg (by omega)]
                      rw [if_neg (by omega)]
                      rw [if_neg (by omega)]
                      rw [if_neg (by omega)]
                      rw [if_neg (by omega)]
                      rw [if_neg (by omega)]
                      rw [if_neg (by omega)]
                      rw [if_neg (by omega)]
                      rw [if_pos (by omega)]
                      rfl
                    · refine r_iincZ (z := 1) (y := 11) hX dX0_monthOf_31 rfl (by decide) rfl rfl ?_
                      refine r_goto (tgt := 14) hX dX0_monthOf_34 (by decide) ?_
                      refine r_iload_n hX dX0_monthOf_14 rfl rfl ?_
                      refine r_bipushZ hX dX0_monthOf_15 (by decide) ?_
                      refine r_icmp_geZ (tgt := 37) hX dX0_monthOf_17 (by decide) (by decide) (by decide) (fun q => absurd q (by decide)) (fun _ => ?_)
                      refine r_iload_n hX dX0_monthOf_20 rfl rfl ?_
                      refine r_iload_n hX dX0_monthOf_21 rfl rfl ?_
                      refine r_iload_n hX dX0_monthOf_22 rfl rfl ?_
                      refine r_iconstZ hX dX0_monthOf_23 ?_
                      refine r_iaddZ hX dX0_monthOf_24 ?_
                      refine r_callS hX (z_X0_daysBeforeMonth _ _ _ (YR d) (by omega) (by omega) _ 12 (by omega) (by omega)) ks_X0_30 rfl rfl (Nat.le_of_ble_eq_true rfl) ⟨(Nat.le_of_ble_eq_true rfl), (Nat.le_of_ble_eq_true rfl)⟩ ⟨(Nat.le_of_ble_eq_true rfl), (Nat.le_of_ble_eq_true rfl)⟩ dX0_monthOf_25 (fun _ _ z => False.elim z) (fun v9 ws9 h23 => ?_)
                      obtain ⟨rfl, hw9⟩ := h23
                      subst ws9
                      dsimp only [mPush]
                      refine r_icmp_ltZ (tgt := 37) hX dX0_monthOf_28 (by decide) (by omega) (by omega) (fun c24 => ?_) (fun c24 => ?_)
                      · refine r_iload_n hX dX0_monthOf_37 rfl rfl ?_
                        refine r_iret hX hE dX0_monthOf_38 (Nat.le_of_ble_eq_true rfl) (Nat.le_of_ble_eq_true rfl) ⟨zi ?_, rfl⟩
                        show (11 : Int) = ((MOy (YR d) (d - FO (YR d)) : Nat) : Int)
                        unfold MOy
                        rw [if_neg (by omega)]
                        rw [if_neg (by omega)]
                        rw [if_neg (by omega)]
                        rw [if_neg (by omega)]
                        rw [if_neg (by omega)]
                        rw [if_neg (by omega)]
                        rw [if_neg (by omega)]
                        rw [if_neg (by omega)]
                        rw [if_neg (by omega)]
                        rw [if_neg (by omega)]
                        rw [if_pos (by omega)]
                        rfl
                      · refine r_iincZ (z := 1) (y := 12) hX dX0_monthOf_31 rfl (by decide) rfl rfl ?_
                        refine r_goto (tgt := 14) hX dX0_monthOf_34 (by decide) ?_
                        refine r_iload_n hX dX0_monthOf_14 rfl rfl ?_
                        refine r_bipushZ hX dX0_monthOf_15 (by decide) ?_
                        refine r_icmp_geZ (tgt := 37) hX dX0_monthOf_17 (by decide) (by decide) (by decide) (fun _ => ?_) (fun q => absurd (by decide) q)
                        refine r_iload_n hX dX0_monthOf_37 rfl rfl ?_
                        refine r_iret hX hE dX0_monthOf_38 (Nat.le_of_ble_eq_true rfl) (Nat.le_of_ble_eq_true rfl) ⟨zi ?_, rfl⟩
                        show (12 : Int) = ((MOy (YR d) (d - FO (YR d)) : Nat) : Int)
                        unfold MOy
                        rw [if_neg (by omega)]
                        rw [if_neg (by omega)]
                        rw [if_neg (by omega)]
                        rw [if_neg (by omega)]
                        rw [if_neg (by omega)]
                        rw [if_neg (by omega)]
                        rw [if_neg (by omega)]
                        rw [if_neg (by omega)]
                        rw [if_neg (by omega)]
                        rw [if_neg (by omega)]
                        rw [if_neg (by omega)]
                        rfl
set_option maxHeartbeats 4000000 in
set_option maxRecDepth 20000 in
theorem z_X0_dayOfMonth (tys : List (ClassId × FieldType)) (ws : va_W) (d : Int) (hd : -21915 ≤ d ∧ d ≤ 22279)  : mCt tys yX0_dayOfMonth cX0_dayOfMonth 1 (some .int) ⟨3, 0, 0, 65⟩ [.int (iZ d)] ws (fun v ws' => v = some (.int (iZ (DOM d))) ∧ ws' = ws) mNo := by
  refine mCt.of (by decide +kernel) (Nat.le_of_ble_eq_true rfl) (fun X hX hE => ?_)
  replace hX : mOK X RX0 cX0_dayOfMonth 1 ⟨3, 0, 0, 65⟩ [] tys := hX
  have hs := YR_spec hd.1 hd.2
  have hb := FO_b (y := YR d) (by omega)
  have hn := FO_s (y := YR d) (by omega)
  have hl := yl_b (YR d)
  have hmo := MO_b d
  refine r_iload_n hX dX0_dayOfMonth_0 rfl rfl ?_
  refine r_callS hX (z_X0_dayOfYear _ _ _ (by omega)) ks_X0_36 rfl rfl (Nat.le_of_ble_eq_true rfl) ⟨(Nat.le_of_ble_eq_true rfl), (Nat.le_of_ble_eq_true rfl)⟩ ⟨(Nat.le_of_ble_eq_true rfl), (Nat.le_of_ble_eq_true rfl)⟩ dX0_dayOfMonth_1 (fun _ _ z => False.elim z) (fun v9 ws9 h1 => ?_)
  obtain ⟨rfl, hw9⟩ := h1
  subst ws9
  dsimp only [mPush]
  refine r_iload_n hX dX0_dayOfMonth_4 rfl rfl ?_
  refine r_callS hX (z_X0_yearOf _ _ _ (by omega)) ks_X0_33 rfl rfl (Nat.le_of_ble_eq_true rfl) ⟨(Nat.le_of_ble_eq_true rfl), (Nat.le_of_ble_eq_true rfl)⟩ ⟨(Nat.le_of_ble_eq_true rfl), (Nat.le_of_ble_eq_true rfl)⟩ dX0_dayOfMonth_5 (fun _ _ z => False.elim z) (fun v9 ws9 h2 => ?_)
  obtain ⟨rfl, hw9⟩ := h2
  subst ws9
  dsimp only [mPush]
  refine r_iload_n hX dX0_dayOfMonth_8 rfl rfl ?_
  refine r_callS hX (z_X0_monthOf _ _ _ (by omega)) ks_X0_39 rfl rfl (Nat.le_of_ble_eq_true rfl) ⟨(Nat.le_of_ble_eq_true rfl), (Nat.le_of_ble_eq_true rfl)⟩ ⟨(Nat.le_of_ble_eq_true rfl), (Nat.le_of_ble_eq_true rfl)⟩ dX0_dayOfMonth_9 (fun _ _ z => False.elim z) (fun v9 ws9 h3 => ?_)
  obtain ⟨rfl, hw9⟩ := h3
  subst ws9
  dsimp only [mPush]
  refine r_callS hX (z_X0_daysBeforeMonth _ _ _ (YR d) (by omega) (by omega) _ (MO d) (by omega) (by omega)) ks_X0_30 rfl rfl (Nat.le_of_ble_eq_true rfl) ⟨(Nat.le_of_ble_eq_true rfl), (Nat.le_of_ble_eq_true rfl)⟩ ⟨(Nat.le_of_ble_eq_true rfl), (Nat.le_of_ble_eq_true rfl)⟩ dX0_dayOfMonth_12 (fun _ _ z => False.elim z) (fun v9 ws9 h4 => ?_)
  obtain ⟨rfl, hw9⟩ := h4
  subst ws9
  dsimp only [mPush]
  refine r_isubZ hX dX0_dayOfMonth_15 ?_
  refine r_iret hX hE dX0_dayOfMonth_16 (Nat.le_of_ble_eq_true rfl) (Nat.le_of_ble_eq_true rfl) ⟨zi ?_, rfl⟩
  unfold DOM
  omega
set_option maxHeartbeats 4000000 in
set_option maxRecDepth 20000 in
theorem z_X0_dayOfWeek (tys : List (ClassId × FieldType)) (ws : va_W) (d : Int) (hd : -100000 ≤ d ∧ d ≤ 100000)  : mCt tys yX0_dayOfWeek cX0_dayOfWeek 1 (some .int) ⟨1, 0, 0, 22⟩ [.int (iZ d)] ws (fun v ws' => v = some (.int (iZ ((d + 3) % 7 + 1))) ∧ ws' = ws) mNo := by
  refine mCt.of (by decide +kernel) (Nat.le_of_ble_eq_true rfl) (fun X hX hE => ?_)
  replace hX : mOK X RX0 cX0_dayOfWeek 1 ⟨1, 0, 0, 22⟩ [] tys := hX
  refine r_iload_n hX dX0_dayOfWeek_0 rfl rfl ?_
  refine r_iconstZ hX dX0_dayOfWeek_1 ?_
  refine r_iaddZ hX dX0_dayOfWeek_2 ?_
  refine r_bipushZ hX dX0_dayOfWeek_3 (by decide) ?_
  refine r_callS hX (z_J9_floorModI _ _ _ _ (by omega) rfl) ks_X0_42 rfl rfl (Nat.le_of_ble_eq_true rfl) ⟨(Nat.le_of_ble_eq_true rfl), (Nat.le_of_ble_eq_true rfl)⟩ ⟨(Nat.le_of_ble_eq_true rfl), (Nat.le_of_ble_eq_true rfl)⟩ dX0_dayOfWeek_5 (fun _ _ z => False.elim z) (fun v9 ws9 h1 => ?_)
  obtain ⟨rfl, hw9⟩ := h1
  subst ws9
  dsimp only [mPush]
  refine r_iconstZ hX dX0_dayOfWeek_8 ?_
  refine r_iaddZ hX dX0_dayOfWeek_9 ?_
  refine r_iret hX hE dX0_dayOfWeek_10 (Nat.le_of_ble_eq_true rfl) (Nat.le_of_ble_eq_true rfl) ⟨zi ?_, rfl⟩
  rfl

