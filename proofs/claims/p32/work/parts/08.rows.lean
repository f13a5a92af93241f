-- 64 zcal
section
/-! The class, exact (rows by a program of this repository). -/
theorem zb1 {b : Bool} (h : b = true) : some (Value.int (iZ 1)) = some (Value.int (b2i b)) := by rw [h]; rfl
theorem zb0 {b : Bool} (h : b = false) : some (Value.int (iZ 0)) = some (Value.int (b2i b)) := by rw [h]; rfl
theorem leap_y {y : Nat} (h : y % 400 = 0 ∨ (y % 4 = 0 ∧ ¬ y % 100 = 0)) : leapb y = true := by
  simp only [leapb, Bool.or_eq_true, Bool.and_eq_true, beq_iff_eq, Bool.not_eq_true', beq_eq_false_iff_ne, ne_eq]
  exact h
theorem leap_n {y : Nat} (h : ¬ (y % 400 = 0 ∨ (y % 4 = 0 ∧ ¬ y % 100 = 0))) : leapb y = false := by
  rw [Bool.eq_false_iff]
  simp only [leapb, Bool.or_eq_true, Bool.and_eq_true, beq_iff_eq, Bool.not_eq_true', beq_eq_false_iff_ne, ne_eq]
  exact h
theorem DB_line {y m : Nat} (h1 : 1 ≤ m) (h2 : m ≤ 12) : DB y m = if m ≤ 2 then (367 * (m : Int) - 362) / 12 else if leapb y = true then (367 * (m : Int) - 362) / 12 - 1 else (367 * (m : Int) - 362) / 12 - 2 := by
  rcases (show m = 1 ∨ m = 2 ∨ m = 3 ∨ m = 4 ∨ m = 5 ∨ m = 6 ∨ m = 7 ∨ m = 8 ∨ m = 9 ∨ m = 10 ∨ m = 11 ∨ m = 12 by omega) with rfl | rfl | rfl | rfl | rfl | rfl | rfl | rfl | rfl | rfl | rfl | rfl <;> cases h : leapb y <;> simp [DB, dm, h]
theorem yl_y {y : Nat} (h : leapb y = true) : (366 : Int) = ((yl y : Nat) : Int) := by unfold yl; rw [if_pos h]; rfl
theorem yl_n {y : Nat} (h : leapb y = false) : (365 : Int) = ((yl y : Nat) : Int) := by unfold yl; rw [h]; rfl
theorem MO_b (d : Int) : 1 ≤ MO d ∧ MO d ≤ 12 := by
  unfold MO MOy
  repeat' split
  all_goals omega
set_option maxHeartbeats 4000000 in
set_option maxRecDepth 20000 in
theorem z_X0_isLeap (tys : List (ClassId × FieldType)) (ws : va_W) (Y : Int) (y : Nat) (hY : Y = (y : Int)) (hy : 1 ≤ y ∧ y < 2100)  : mCt tys yX0_isLeap cX0_isLeap 1 (some .boolean) ⟨0, 0, 0, 0⟩ [.int (iZ Y)] ws (fun v ws' => v = some (.int (b2i (leapb y))) ∧ ws' = ws) mNo := by
  refine mCt.of (by decide +kernel) (Nat.le_of_ble_eq_true rfl) (fun X hX hE => ?_)
  replace hX : mOK X RX0 cX0_isLeap 1 ⟨0, 0, 0, 0⟩ [] tys := hX
  refine r_iload_n hX dX0_isLeap_0 rfl rfl (r_iconstZ hX dX0_isLeap_1 (r_iremZ hX dX0_isLeap_2 (by first | with_reducible assumption | decide | omega) (by decide) (r_if_neZ (tgt := 25) hX dX0_isLeap_3 (by decide) (by first | with_reducible assumption | decide | omega) (fun c1 => ?_) (fun c1 => ?_))))
  · refine r_iconstZ hX dX0_isLeap_25 (r_zret hX hE dX0_isLeap_26 (by decide) (Nat.le_of_ble_eq_true rfl) (Nat.le_of_ble_eq_true rfl) ⟨zb0 ?_, rfl⟩)
    exact leap_n (by omega)
  · refine r_iload_n hX dX0_isLeap_6 rfl rfl (r_bipushZ hX dX0_isLeap_7 (by decide +kernel) (r_iremZ hX dX0_isLeap_9 (by first | with_reducible assumption | decide | omega) (by decide) (r_if_neZ (tgt := 21) hX dX0_isLeap_10 (by decide) (by first | with_reducible assumption | decide | omega) (fun c2 => ?_) (fun c2 => ?_))))
    · refine r_iconstZ hX dX0_isLeap_21 (r_goto (tgt := 26) hX dX0_isLeap_22 (by decide) (r_zret hX hE dX0_isLeap_26 (by decide) (Nat.le_of_ble_eq_true rfl) (Nat.le_of_ble_eq_true rfl) ⟨zb1 ?_, rfl⟩))
      exact leap_y (by omega)
    · refine r_iload_n hX dX0_isLeap_13 rfl rfl (r_sipushZ hX dX0_isLeap_14 (by decide +kernel) (r_iremZ hX dX0_isLeap_17 (by first | with_reducible assumption | decide | omega) (by decide) (r_if_neZ (tgt := 25) hX dX0_isLeap_18 (by decide) (by first | with_reducible assumption | decide | omega) (fun c3 => ?_) (fun c3 => ?_))))
      · refine r_iconstZ hX dX0_isLeap_25 (r_zret hX hE dX0_isLeap_26 (by decide) (Nat.le_of_ble_eq_true rfl) (Nat.le_of_ble_eq_true rfl) ⟨zb0 ?_, rfl⟩)
        exact leap_n (by omega)
      · refine r_iconstZ hX dX0_isLeap_21 (r_goto (tgt := 26) hX dX0_isLeap_22 (by decide) (r_zret hX hE dX0_isLeap_26 (by decide) (Nat.le_of_ble_eq_true rfl) (Nat.le_of_ble_eq_true rfl) ⟨zb1 ?_, rfl⟩))
        exact leap_y (by omega)
set_option maxHeartbeats 4000000 in
set_option maxRecDepth 20000 in
theorem z_X0_lengthOfYear (tys : List (ClassId × FieldType)) (ws : va_W) (Y : Int) (y : Nat) (hY : Y = (y : Int)) (hy : 1 ≤ y ∧ y < 2100)  : mCt tys yX0_lengthOfYear cX0_lengthOfYear 1 (some .int) ⟨1, 0, 0, 20⟩ [.int (iZ Y)] ws (fun v ws' => v = some (.int (iZ (yl y : Nat))) ∧ ws' = ws) mNo := by
  refine mCt.of (by decide +kernel) (Nat.le_of_ble_eq_true rfl) (fun X hX hE => ?_)
  replace hX : mOK X RX0 cX0_lengthOfYear 1 ⟨1, 0, 0, 20⟩ [] tys := hX
  refine r_iload_n hX dX0_lengthOfYear_0 rfl rfl (r_callS hX (z_X0_isLeap _ _ _ y (by first | with_reducible assumption | decide | omega) (by first | with_reducible assumption | decide | omega)) ks_X0_9 rfl rfl (Nat.le_of_ble_eq_true rfl) ⟨(Nat.le_of_ble_eq_true rfl), (Nat.le_of_ble_eq_true rfl)⟩ ⟨(Nat.le_of_ble_eq_true rfl), (Nat.le_of_ble_eq_true rfl)⟩ dX0_lengthOfYear_1 (fun _ _ z => False.elim z) (fun v9 ws9 h1 => ?_))
  obtain ⟨rfl, hw9⟩ := h1
  subst ws9
  dsimp only [mPush]
  refine r_if_eqB (tgt := 13) hX dX0_lengthOfYear_4 (by decide) (fun c2 => ?_) (fun c2 => ?_)
  · have c2 := id c2
    refine r_sipushZ hX dX0_lengthOfYear_13 (by decide +kernel) (r_iret hX hE dX0_lengthOfYear_16 (Nat.le_of_ble_eq_true rfl) (Nat.le_of_ble_eq_true rfl) ⟨zi ?_, rfl⟩)
    exact yl_n c2
  · have c2 := id c2
    refine r_sipushZ hX dX0_lengthOfYear_7 (by decide +kernel) (r_goto (tgt := 16) hX dX0_lengthOfYear_10 (by decide) (r_iret hX hE dX0_lengthOfYear_16 (Nat.le_of_ble_eq_true rfl) (Nat.le_of_ble_eq_true rfl) ⟨zi ?_, rfl⟩))
    exact yl_y c2
set_option maxHeartbeats 4000000 in
set_option maxRecDepth 20000 in
theorem z_X0_lengthOfMonth (tys : List (ClassId × FieldType)) (ws : va_W) (Y : Int) (y : Nat) (hY : Y = (y : Int)) (hy : 1 ≤ y ∧ y < 2100) (M : Int) (m : Nat) (hM : M = (m : Int)) (hm : 1 ≤ m ∧ m ≤ 12)  : mCt tys yX0_lengthOfMonth cX0_lengthOfMonth 2 (some .int) ⟨1, 0, 0, 20⟩ [.int (iZ Y), .int (iZ M)] ws (fun v ws' => v = some (.int (iZ (dm y m : Nat))) ∧ ws' = ws) mNo := by
  refine mCt.of (by decide +kernel) (Nat.le_of_ble_eq_true rfl) (fun X hX hE => ?_)
  replace hX : mOK X RX0 cX0_lengthOfMonth 2 ⟨1, 0, 0, 20⟩ [] tys := hX
  refine r_iload_n hX dX0_lengthOfMonth_0 rfl rfl ?_
  by_cases s1 : M = 2
  · refine r_tableInZ (z := 2) (off := 55) (tgt := 56) hX dX0_lengthOfMonth_1 s1 (by decide) (by decide) (by decide) rfl (by decide) (r_iload_n hX dX0_lengthOfMonth_56 rfl rfl (r_callS hX (z_X0_isLeap _ _ _ y (by first | with_reducible assumption | decide | omega) (by first | with_reducible assumption | decide | omega)) ks_X0_9 rfl rfl (Nat.le_of_ble_eq_true rfl) ⟨(Nat.le_of_ble_eq_true rfl), (Nat.le_of_ble_eq_true rfl)⟩ ⟨(Nat.le_of_ble_eq_true rfl), (Nat.le_of_ble_eq_true rfl)⟩ dX0_lengthOfMonth_57 (fun _ _ z => False.elim z) (fun v9 ws9 h2 => ?_)))
    obtain ⟨rfl, hw9⟩ := h2
    subst ws9
    dsimp only [mPush]
    refine r_if_eqB (tgt := 68) hX dX0_lengthOfMonth_60 (by decide) (fun c3 => ?_) (fun c3 => ?_)
    · have c3 := id c3
      refine r_bipushZ hX dX0_lengthOfMonth_68 (by decide +kernel) (r_iret hX hE dX0_lengthOfMonth_70 (Nat.le_of_ble_eq_true rfl) (Nat.le_of_ble_eq_true rfl) ⟨zi ?_, rfl⟩)
      rw [show m = 2 by omega]
      simp [dm, *]
    · have c3 := id c3
      refine r_bipushZ hX dX0_lengthOfMonth_63 (by decide +kernel) (r_goto (tgt := 70) hX dX0_lengthOfMonth_65 (by decide) (r_iret hX hE dX0_lengthOfMonth_70 (Nat.le_of_ble_eq_true rfl) (Nat.le_of_ble_eq_true rfl) ⟨zi ?_, rfl⟩))
      rw [show m = 2 by omega]
      simp [dm, *]
  by_cases s4 : M = 3
  · refine r_tableInZ (z := 3) (off := 73) (tgt := 74) hX dX0_lengthOfMonth_1 s4 (by decide) (by decide) (by decide) rfl (by decide) (r_bipushZ hX dX0_lengthOfMonth_74 (by decide +kernel) (r_iret hX hE dX0_lengthOfMonth_76 (Nat.le_of_ble_eq_true rfl) (Nat.le_of_ble_eq_true rfl) ⟨zi ?_, rfl⟩))
    rw [show m = 3 by omega]
    simp [dm]
  by_cases s5 : M = 4
  · refine r_tableInZ (z := 4) (off := 70) (tgt := 71) hX dX0_lengthOfMonth_1 s5 (by decide) (by decide) (by decide) rfl (by decide) (r_bipushZ hX dX0_lengthOfMonth_71 (by decide +kernel) (r_iret hX hE dX0_lengthOfMonth_73 (Nat.le_of_ble_eq_true rfl) (Nat.le_of_ble_eq_true rfl) ⟨zi ?_, rfl⟩))
    rw [show m = 4 by omega]
    simp [dm]
  by_cases s6 : M = 5
  · refine r_tableInZ (z := 5) (off := 73) (tgt := 74) hX dX0_lengthOfMonth_1 s6 (by decide) (by decide) (by decide) rfl (by decide) (r_bipushZ hX dX0_lengthOfMonth_74 (by decide +kernel) (r_iret hX hE dX0_lengthOfMonth_76 (Nat.le_of_ble_eq_true rfl) (Nat.le_of_ble_eq_true rfl) ⟨zi ?_, rfl⟩))
    rw [show m = 5 by omega]
    simp [dm]
  by_cases s7 : M = 6
  · refine r_tableInZ (z := 6) (off := 70) (tgt := 71) hX dX0_lengthOfMonth_1 s7 (by decide) (by decide) (by decide) rfl (by decide) (r_bipushZ hX dX0_lengthOfMonth_71 (by decide +kernel) (r_iret hX hE dX0_lengthOfMonth_73 (Nat.le_of_ble_eq_true rfl) (Nat.le_of_ble_eq_true rfl) ⟨zi ?_, rfl⟩))
    rw [show m = 6 by omega]
    simp [dm]
  by_cases s8 : M = 7
  · refine r_tableInZ (z := 7) (off := 73) (tgt := 74) hX dX0_lengthOfMonth_1 s8 (by decide) (by decide) (by decide) rfl (by decide) (r_bipushZ hX dX0_lengthOfMonth_74 (by decide +kernel) (r_iret hX hE dX0_lengthOfMonth_76 (Nat.le_of_ble_eq_true rfl) (Nat.le_of_ble_eq_true rfl) ⟨zi ?_, rfl⟩))
    rw [show m = 7 by omega]
    simp [dm]
  by_cases s9 : M = 8
  · refine r_tableInZ (z := 8) (off := 73) (tgt := 74) hX dX0_lengthOfMonth_1 s9 (by decide) (by decide) (by decide) rfl (by decide) (r_bipushZ hX dX0_lengthOfMonth_74 (by decide +kernel) (r_iret hX hE dX0_lengthOfMonth_76 (Nat.le_of_ble_eq_true rfl) (Nat.le_of_ble_eq_true rfl) ⟨zi ?_, rfl⟩))
    rw [show m = 8 by omega]
    simp [dm]
  by_cases s10 : M = 9
  · refine r_tableInZ (z := 9) (off := 70) (tgt := 71) hX dX0_lengthOfMonth_1 s10 (by decide) (by decide) (by decide) rfl (by decide) (r_bipushZ hX dX0_lengthOfMonth_71 (by decide +kernel) (r_iret hX hE dX0_lengthOfMonth_73 (Nat.le_of_ble_eq_true rfl) (Nat.le_of_ble_eq_true rfl) ⟨zi ?_, rfl⟩))
    rw [show m = 9 by omega]
    simp [dm]
  by_cases s11 : M = 10
  · refine r_tableInZ (z := 10) (off := 73) (tgt := 74) hX dX0_lengthOfMonth_1 s11 (by decide) (by decide) (by decide) rfl (by decide) (r_bipushZ hX dX0_lengthOfMonth_74 (by decide +kernel) (r_iret hX hE dX0_lengthOfMonth_76 (Nat.le_of_ble_eq_true rfl) (Nat.le_of_ble_eq_true rfl) ⟨zi ?_, rfl⟩))
    rw [show m = 10 by omega]
    simp [dm]
  by_cases s12 : M = 11
  · refine r_tableInZ (z := 11) (off := 70) (tgt := 71) hX dX0_lengthOfMonth_1 s12 (by decide) (by decide) (by decide) rfl (by decide) (r_bipushZ hX dX0_lengthOfMonth_71 (by decide +kernel) (r_iret hX hE dX0_lengthOfMonth_73 (Nat.le_of_ble_eq_true rfl) (Nat.le_of_ble_eq_true rfl) ⟨zi ?_, rfl⟩))
    rw [show m = 11 by omega]
    simp [dm]
  refine r_tableOutZ (tgt := 74) hX dX0_lengthOfMonth_1 (by first | with_reducible assumption | decide | omega) (by first | with_reducible assumption | decide | omega) (by decide) (r_bipushZ hX dX0_lengthOfMonth_74 (by decide +kernel) (r_iret hX hE dX0_lengthOfMonth_76 (Nat.le_of_ble_eq_true rfl) (Nat.le_of_ble_eq_true rfl) ⟨zi ?_, rfl⟩))
  rcases (show m = 1 ∨ m = 12 by omega) with h | h <;> rw [h] <;> simp [dm]
set_option maxHeartbeats 4000000 in
set_option maxRecDepth 20000 in
theorem z_X0_isDay (tys : List (ClassId × FieldType)) (ws : va_W) (Y : Int) (y : Nat) (hY : Y = (y : Int)) (hy : 1 ≤ y ∧ y < 2100) (M : Int) (hM : rJ M) (dd : Int) (hD : rJ dd)  : mCt tys yX0_isDay cX0_isDay 3 (some .boolean) ⟨2, 0, 0, 41⟩ [.int (iZ Y), .int (iZ M), .int (iZ dd)] ws (fun v ws' => v = some (.int (b2i (decide ((1 ≤ M ∧ M ≤ 12) ∧ 1 ≤ dd ∧ dd ≤ (dm y M.toNat : Nat))))) ∧ ws' = ws) mNo := by
  refine mCt.of (by decide +kernel) (Nat.le_of_ble_eq_true rfl) (fun X hX hE => ?_)
  replace hX : mOK X RX0 cX0_isDay 3 ⟨2, 0, 0, 41⟩ [] tys := hX
  have hdm := dm_b y M.toNat
  refine r_iload_n hX dX0_isDay_0 rfl rfl (r_i2lZ hX dX0_isDay_1 (by first | with_reducible assumption | decide | omega) (r_lconstZ (v := 1) hX dX0_isDay_2 rfl (r_ldc2Z (z := 12) hX kc_X0_15 (by decide +kernel) dX0_isDay_3 (r_callN hX (z_X2_isWithin _ _ _ _ _ (by first | with_reducible assumption | decide | omega) (by first | with_reducible assumption | decide | omega) (by first | with_reducible assumption | decide | omega)) kn_X0_17 rfl rfl (Nat.le_of_ble_eq_true rfl) ⟨(Nat.le_of_ble_eq_true rfl), (Nat.le_of_ble_eq_true rfl)⟩ ⟨(Nat.le_of_ble_eq_true rfl), (Nat.le_of_ble_eq_true rfl)⟩ dX0_isDay_6 (fun _ _ z => False.elim z) (fun v9 ws9 h1 => ?_)))))
  obtain ⟨rfl, hw9⟩ := h1
  subst ws9
  dsimp only [mPush]
  refine r_if_eqB (tgt := 31) hX dX0_isDay_9 (by decide) (fun c2 => ?_) (fun c2 => ?_)
  · have c2 := of_decide_eq_false c2
    refine r_iconstZ hX dX0_isDay_31 (r_zret hX hE dX0_isDay_32 (by decide) (Nat.le_of_ble_eq_true rfl) (Nat.le_of_ble_eq_true rfl) ⟨zb0 ?_, rfl⟩)
    exact decide_eq_false (by omega)
  · have c2 := of_decide_eq_true c2
    refine r_iload_n hX dX0_isDay_12 rfl rfl (r_i2lZ hX dX0_isDay_13 (by first | with_reducible assumption | decide | omega) (r_lconstZ (v := 1) hX dX0_isDay_14 rfl (r_iload_n hX dX0_isDay_15 rfl rfl (r_iload_n hX dX0_isDay_16 rfl rfl (r_callS hX (z_X0_lengthOfMonth _ _ _ y (by first | with_reducible assumption | decide | omega) (by first | with_reducible assumption | decide | omega) _ M.toNat (by first | with_reducible assumption | decide | omega) (by first | with_reducible assumption | decide | omega)) ks_X0_21 rfl rfl (Nat.le_of_ble_eq_true rfl) ⟨(Nat.le_of_ble_eq_true rfl), (Nat.le_of_ble_eq_true rfl)⟩ ⟨(Nat.le_of_ble_eq_true rfl), (Nat.le_of_ble_eq_true rfl)⟩ dX0_isDay_17 (fun _ _ z => False.elim z) (fun v9 ws9 h3 => ?_))))))
    obtain ⟨rfl, hw9⟩ := h3
    subst ws9
    dsimp only [mPush]
    refine r_i2lZ hX dX0_isDay_20 (by first | with_reducible assumption | decide | omega) (r_callN hX (z_X2_isWithin _ _ _ _ _ (by first | with_reducible assumption | decide | omega) (by first | with_reducible assumption | decide | omega) (by first | with_reducible assumption | decide | omega)) kn_X0_17 rfl rfl (Nat.le_of_ble_eq_true rfl) ⟨(Nat.le_of_ble_eq_true rfl), (Nat.le_of_ble_eq_true rfl)⟩ ⟨(Nat.le_of_ble_eq_true rfl), (Nat.le_of_ble_eq_true rfl)⟩ dX0_isDay_21 (fun _ _ z => False.elim z) (fun v9 ws9 h4 => ?_))
    obtain ⟨rfl, hw9⟩ := h4
    subst ws9
    dsimp only [mPush]
    refine r_if_eqB (tgt := 31) hX dX0_isDay_24 (by decide) (fun c5 => ?_) (fun c5 => ?_)
    · have c5 := of_decide_eq_false c5
      refine r_iconstZ hX dX0_isDay_31 (r_zret hX hE dX0_isDay_32 (by decide) (Nat.le_of_ble_eq_true rfl) (Nat.le_of_ble_eq_true rfl) ⟨zb0 ?_, rfl⟩)
      exact decide_eq_false (by omega)
    · have c5 := of_decide_eq_true c5
      refine r_iconstZ hX dX0_isDay_27 (r_goto (tgt := 32) hX dX0_isDay_28 (by decide) (r_zret hX hE dX0_isDay_32 (by decide) (Nat.le_of_ble_eq_true rfl) (Nat.le_of_ble_eq_true rfl) ⟨zb1 ?_, rfl⟩))
      exact decide_eq_true (by omega)
set_option maxHeartbeats 4000000 in
set_option maxRecDepth 20000 in
theorem z_X0_firstDayOf (tys : List (ClassId × FieldType)) (ws : va_W) (Y : Int) (y : Nat) (hY : Y = (y : Int)) (hy : 1 ≤ y ∧ y < 2100)  : mCt tys yX0_firstDayOf cX0_firstDayOf 2 (some .int) ⟨0, 0, 0, 0⟩ [.int (iZ Y)] ws (fun v ws' => v = some (.int (iZ (FO y))) ∧ ws' = ws) mNo := by
  refine mCt.of (by decide +kernel) (Nat.le_of_ble_eq_true rfl) (fun X hX hE => ?_)
  replace hX : mOK X RX0 cX0_firstDayOf 2 ⟨0, 0, 0, 0⟩ [] tys := hX
  refine r_iload_n hX dX0_firstDayOf_0 rfl rfl (r_iconstZ hX dX0_firstDayOf_1 (r_isubZ hX dX0_firstDayOf_2 (r_istore_n hX dX0_firstDayOf_3 rfl (by decide) rfl (r_iload_n hX dX0_firstDayOf_4 rfl rfl (r_sipushZ hX dX0_firstDayOf_5 (by decide +kernel) (r_imulZ hX dX0_firstDayOf_8 (r_iload_n hX dX0_firstDayOf_9 rfl rfl ?_)))))))
  refine r_iconstZ hX dX0_firstDayOf_10 (r_idivZ hX dX0_firstDayOf_11 (by first | with_reducible assumption | decide | omega) (by decide) (r_iaddZ hX dX0_firstDayOf_12 (r_iload_n hX dX0_firstDayOf_13 rfl rfl (r_bipushZ hX dX0_firstDayOf_14 (by decide +kernel) (r_idivZ hX dX0_firstDayOf_16 (by first | with_reducible assumption | decide | omega) (by decide) (r_isubZ hX dX0_firstDayOf_17 (r_iload_n hX dX0_firstDayOf_18 rfl rfl ?_)))))))
  refine r_sipushZ hX dX0_firstDayOf_19 (by decide +kernel) (r_idivZ hX dX0_firstDayOf_22 (by first | with_reducible assumption | decide | omega) (by decide) (r_iaddZ hX dX0_firstDayOf_23 (r_ldcZ (z := 719162) hX kc_X0_25 (by decide +kernel) dX0_firstDayOf_24 (r_isubZ hX dX0_firstDayOf_26 (r_iret hX hE dX0_firstDayOf_27 (Nat.le_of_ble_eq_true rfl) (Nat.le_of_ble_eq_true rfl) ⟨zi ?_, rfl⟩)))))
  unfold FO
  omega
set_option maxHeartbeats 4000000 in
set_option maxRecDepth 20000 in
theorem z_X0_daysBeforeMonth (tys : List (ClassId × FieldType)) (ws : va_W) (Y : Int) (y : Nat) (hY : Y = (y : Int)) (hy : 1 ≤ y ∧ y < 2100) (M : Int) (m : Nat) (hM : M = (m : Int)) (hm : 1 ≤ m ∧ m ≤ 12)  : mCt tys yX0_daysBeforeMonth cX0_daysBeforeMonth 3 (some .int) ⟨1, 0, 0, 20⟩ [.int (iZ Y), .int (iZ M)] ws (fun v ws' => v = some (.int (iZ (DB y m))) ∧ ws' = ws) mNo := by
  refine mCt.of (by decide +kernel) (Nat.le_of_ble_eq_true rfl) (fun X hX hE => ?_)
  replace hX : mOK X RX0 cX0_daysBeforeMonth 3 ⟨1, 0, 0, 20⟩ [] tys := hX
  refine r_sipushZ hX dX0_daysBeforeMonth_0 (by decide +kernel) (r_iload_n hX dX0_daysBeforeMonth_3 rfl rfl (r_imulZ hX dX0_daysBeforeMonth_4 (r_sipushZ hX dX0_daysBeforeMonth_5 (by decide +kernel) (r_isubZ hX dX0_daysBeforeMonth_8 (r_bipushZ hX dX0_daysBeforeMonth_9 (by decide +kernel) (r_idivZ hX dX0_daysBeforeMonth_11 (by first | with_reducible assumption | decide | omega) (by decide) (r_istore_n hX dX0_daysBeforeMonth_12 rfl (by decide) rfl ?_)))))))
  refine r_iload_n hX dX0_daysBeforeMonth_13 rfl rfl (r_iconstZ hX dX0_daysBeforeMonth_14 (r_icmp_gtZ (tgt := 22) hX dX0_daysBeforeMonth_15 (by decide) (by first | with_reducible assumption | decide | omega) (by decide) (fun c1 => ?_) (fun c1 => ?_)))
  · refine r_iload_n hX dX0_daysBeforeMonth_22 rfl rfl (r_callS hX (z_X0_isLeap _ _ _ y (by first | with_reducible assumption | decide | omega) (by first | with_reducible assumption | decide | omega)) ks_X0_9 rfl rfl (Nat.le_of_ble_eq_true rfl) ⟨(Nat.le_of_ble_eq_true rfl), (Nat.le_of_ble_eq_true rfl)⟩ ⟨(Nat.le_of_ble_eq_true rfl), (Nat.le_of_ble_eq_true rfl)⟩ dX0_daysBeforeMonth_23 (fun _ _ z => False.elim z) (fun v9 ws9 h2 => ?_))
    obtain ⟨rfl, hw9⟩ := h2
    subst ws9
    dsimp only [mPush]
    refine r_if_eqB (tgt := 35) hX dX0_daysBeforeMonth_26 (by decide) (fun c3 => ?_) (fun c3 => ?_)
    · have c3 := id c3
      refine r_iload_n hX dX0_daysBeforeMonth_35 rfl rfl (r_iconstZ hX dX0_daysBeforeMonth_36 (r_isubZ hX dX0_daysBeforeMonth_37 (r_iret hX hE dX0_daysBeforeMonth_38 (Nat.le_of_ble_eq_true rfl) (Nat.le_of_ble_eq_true rfl) ⟨zi ?_, rfl⟩)))
      rw [DB_line hm.1 hm.2]
      rw [if_neg (by omega), if_neg (by simp [*])]
      omega
    · have c3 := id c3
      refine r_iload_n hX dX0_daysBeforeMonth_29 rfl rfl (r_iconstZ hX dX0_daysBeforeMonth_30 (r_isubZ hX dX0_daysBeforeMonth_31 (r_goto (tgt := 38) hX dX0_daysBeforeMonth_32 (by decide) (r_iret hX hE dX0_daysBeforeMonth_38 (Nat.le_of_ble_eq_true rfl) (Nat.le_of_ble_eq_true rfl) ⟨zi ?_, rfl⟩))))
      rw [DB_line hm.1 hm.2]
      rw [if_neg (by omega), if_pos (by assumption)]
      omega
  · refine r_iload_n hX dX0_daysBeforeMonth_18 rfl rfl (r_goto (tgt := 38) hX dX0_daysBeforeMonth_19 (by decide) (r_iret hX hE dX0_daysBeforeMonth_38 (Nat.le_of_ble_eq_true rfl) (Nat.le_of_ble_eq_true rfl) ⟨zi ?_, rfl⟩))
    rw [DB_line hm.1 hm.2]
    rw [if_pos (by omega)]
    omega
set_option maxHeartbeats 4000000 in
set_option maxRecDepth 20000 in
theorem z_X0_dayOf (tys : List (ClassId × FieldType)) (ws : va_W) (Y : Int) (y : Nat) (hY : Y = (y : Int)) (hy : 1 ≤ y ∧ y < 2100) (M : Int) (m : Nat) (hM : M = (m : Int)) (hm : 1 ≤ m ∧ m ≤ 12) (dd : Int)  : mCt tys yX0_dayOf cX0_dayOf 3 (some .int) ⟨2, 0, 0, 42⟩ [.int (iZ Y), .int (iZ M), .int (iZ dd)] ws (fun v ws' => v = some (.int (iZ (FO y + DB y m + dd - 1))) ∧ ws' = ws) mNo := by
  refine mCt.of (by decide +kernel) (Nat.le_of_ble_eq_true rfl) (fun X hX hE => ?_)
  replace hX : mOK X RX0 cX0_dayOf 3 ⟨2, 0, 0, 42⟩ [] tys := hX
  refine r_iload_n hX dX0_dayOf_0 rfl rfl (r_callS hX (z_X0_firstDayOf _ _ _ y (by first | with_reducible assumption | decide | omega) (by first | with_reducible assumption | decide | omega)) ks_X0_26 rfl rfl (Nat.le_of_ble_eq_true rfl) ⟨(Nat.le_of_ble_eq_true rfl), (Nat.le_of_ble_eq_true rfl)⟩ ⟨(Nat.le_of_ble_eq_true rfl), (Nat.le_of_ble_eq_true rfl)⟩ dX0_dayOf_1 (fun _ _ z => False.elim z) (fun v9 ws9 h1 => ?_))
  obtain ⟨rfl, hw9⟩ := h1
  subst ws9
  dsimp only [mPush]
  refine r_iload_n hX dX0_dayOf_4 rfl rfl (r_iload_n hX dX0_dayOf_5 rfl rfl (r_callS hX (z_X0_daysBeforeMonth _ _ _ y (by first | with_reducible assumption | decide | omega) (by first | with_reducible assumption | decide | omega) _ m (by first | with_reducible assumption | decide | omega) (by first | with_reducible assumption | decide | omega)) ks_X0_30 rfl rfl (Nat.le_of_ble_eq_true rfl) ⟨(Nat.le_of_ble_eq_true rfl), (Nat.le_of_ble_eq_true rfl)⟩ ⟨(Nat.le_of_ble_eq_true rfl), (Nat.le_of_ble_eq_true rfl)⟩ dX0_dayOf_6 (fun _ _ z => False.elim z) (fun v9 ws9 h2 => ?_)))
  obtain ⟨rfl, hw9⟩ := h2
  subst ws9
  dsimp only [mPush]
  refine r_iaddZ hX dX0_dayOf_9 (r_iload_n hX dX0_dayOf_10 rfl rfl (r_iaddZ hX dX0_dayOf_11 (r_iconstZ hX dX0_dayOf_12 (r_isubZ hX dX0_dayOf_13 (r_iret hX hE dX0_dayOf_14 (Nat.le_of_ble_eq_true rfl) (Nat.le_of_ble_eq_true rfl) ⟨zi ?_, rfl⟩)))))
  rfl
set_option maxHeartbeats 4000000 in
set_option maxRecDepth 20000 in
theorem z_X0_yearOf (tys : List (ClassId × FieldType)) (ws : va_W) (d : Int) (hd : -21915 ≤ d ∧ d ≤ 22279)  : mCt tys yX0_yearOf cX0_yearOf 2 (some .int) ⟨1, 0, 0, 21⟩ [.int (iZ d)] ws (fun v ws' => v = some (.int (iZ (YR d : Nat))) ∧ ws' = ws) mNo := by
  refine mCt.of (by decide +kernel) (Nat.le_of_ble_eq_true rfl) (fun X hX hE => ?_)
  replace hX : mOK X RX0 cX0_yearOf 2 ⟨1, 0, 0, 21⟩ [] tys := hX
  have hb := FO_b (y := (1910 + ((d + 21915) / 366).toNat + 1)) (by omega)
  refine r_sipushZ hX dX0_yearOf_0 (by decide +kernel) (r_iload_n hX dX0_yearOf_3 rfl rfl (r_sipushZ hX dX0_yearOf_4 (by decide +kernel) (r_isubZ hX dX0_yearOf_7 (r_sipushZ hX dX0_yearOf_8 (by decide +kernel) (r_idivZ hX dX0_yearOf_11 (by first | with_reducible assumption | decide | omega) (by decide) (r_iaddZ hX dX0_yearOf_12 (r_istore_n hX dX0_yearOf_13 rfl (by decide) rfl ?_)))))))
  refine r_iload_n hX dX0_yearOf_14 rfl rfl (r_iload_n hX dX0_yearOf_15 rfl rfl (r_iconstZ hX dX0_yearOf_16 (r_iaddZ hX dX0_yearOf_17 (r_callS hX (z_X0_firstDayOf _ _ _ (1910 + ((d + 21915) / 366).toNat + 1) (by first | with_reducible assumption | decide | omega) (by first | with_reducible assumption | decide | omega)) ks_X0_26 rfl rfl (Nat.le_of_ble_eq_true rfl) ⟨(Nat.le_of_ble_eq_true rfl), (Nat.le_of_ble_eq_true rfl)⟩ ⟨(Nat.le_of_ble_eq_true rfl), (Nat.le_of_ble_eq_true rfl)⟩ dX0_yearOf_18 (fun _ _ z => False.elim z) (fun v9 ws9 h1 => ?_)))))
  obtain ⟨rfl, hw9⟩ := h1
  subst ws9
  dsimp only [mPush]
  refine r_icmp_geZ (tgt := 28) hX dX0_yearOf_21 (by decide) (by first | with_reducible assumption | decide | omega) (by first | with_reducible assumption | decide | omega) (fun c2 => ?_) (fun c2 => ?_)
  · refine r_iload_n hX dX0_yearOf_28 rfl rfl (r_iconstZ hX dX0_yearOf_29 (r_iaddZ hX dX0_yearOf_30 (r_iret hX hE dX0_yearOf_31 (Nat.le_of_ble_eq_true rfl) (Nat.le_of_ble_eq_true rfl) ⟨zi ?_, rfl⟩)))
    unfold YR
    rw [if_neg (by omega)]
    omega
  · refine r_iload_n hX dX0_yearOf_24 rfl rfl (r_goto (tgt := 31) hX dX0_yearOf_25 (by decide) (r_iret hX hE dX0_yearOf_31 (Nat.le_of_ble_eq_true rfl) (Nat.le_of_ble_eq_true rfl) ⟨zi ?_, rfl⟩))
    unfold YR
    rw [if_pos (by omega)]
    omega
set_option maxHeartbeats 4000000 in
set_option maxRecDepth 20000 in
theorem z_X0_dayOfYear (tys : List (ClassId × FieldType)) (ws : va_W) (d : Int) (hd : -21915 ≤ d ∧ d ≤ 22279)  : mCt tys yX0_dayOfYear cX0_dayOfYear 1 (some .int) ⟨2, 0, 0, 42⟩ [.int (iZ d)] ws (fun v ws' => v = some (.int (iZ (d - FO (YR d) + 1))) ∧ ws' = ws) mNo := by
  refine mCt.of (by decide +kernel) (Nat.le_of_ble_eq_true rfl) (fun X hX hE => ?_)
  replace hX : mOK X RX0 cX0_dayOfYear 1 ⟨2, 0, 0, 42⟩ [] tys := hX
  have hs := YR_spec hd.1 hd.2
  have hb := FO_b (y := YR d) (by omega)
  have hn := FO_s (y := YR d) (by omega)
  have hl := yl_b (YR d)
  refine r_iload_n hX dX0_dayOfYear_0 rfl rfl (r_iload_n hX dX0_dayOfYear_1 rfl rfl (r_callS hX (z_X0_yearOf _ _ _ (by first | with_reducible assumption | decide | omega)) ks_X0_33 rfl rfl (Nat.le_of_ble_eq_true rfl) ⟨(Nat.le_of_ble_eq_true rfl), (Nat.le_of_ble_eq_true rfl)⟩ ⟨(Nat.le_of_ble_eq_true rfl), (Nat.le_of_ble_eq_true rfl)⟩ dX0_dayOfYear_2 (fun _ _ z => False.elim z) (fun v9 ws9 h1 => ?_)))
  obtain ⟨rfl, hw9⟩ := h1
  subst ws9
  dsimp only [mPush]
  refine r_callS hX (z_X0_firstDayOf _ _ _ (YR d) (by first | with_reducible assumption | decide | omega) (by first | with_reducible assumption | decide | omega)) ks_X0_26 rfl rfl (Nat.le_of_ble_eq_true rfl) ⟨(Nat.le_of_ble_eq_true rfl), (Nat.le_of_ble_eq_true rfl)⟩ ⟨(Nat.le_of_ble_eq_true rfl), (Nat.le_of_ble_eq_true rfl)⟩ dX0_dayOfYear_5 (fun _ _ z => False.elim z) (fun v9 ws9 h2 => ?_)
  obtain ⟨rfl, hw9⟩ := h2
  subst ws9
  dsimp only [mPush]
  refine r_isubZ hX dX0_dayOfYear_8 (r_iconstZ hX dX0_dayOfYear_9 (r_iaddZ hX dX0_dayOfYear_10 (r_iret hX hE dX0_dayOfYear_11 (Nat.le_of_ble_eq_true rfl) (Nat.le_of_ble_eq_true rfl) ⟨zi ?_, rfl⟩)))
  rfl
set_option maxHeartbeats 4000000 in
set_option maxRecDepth 20000 in
theorem z_X0_monthOf (tys : List (ClassId × FieldType)) (ws : va_W) (d : Int) (hd : -21915 ≤ d ∧ d ≤ 22279)  : mCt tys yX0_monthOf cX0_monthOf 4 (some .int) ⟨2, 0, 0, 42⟩ [.int (iZ d)] ws (fun v ws' => v = some (.int (iZ (MO d : Nat))) ∧ ws' = ws) mNo := by
  refine mCt.of (by decide +kernel) (Nat.le_of_ble_eq_true rfl) (fun X hX hE => ?_)
  replace hX : mOK X RX0 cX0_monthOf 4 ⟨2, 0, 0, 42⟩ [] tys := hX
  have hs := YR_spec hd.1 hd.2
  have hb := FO_b (y := YR d) (by omega)
  have hn := FO_s (y := YR d) (by omega)
  have hl := yl_b (YR d)
  have hB2 := DB_b (y := YR d) (m := 2) (by omega)
  have hB3 := DB_b (y := YR d) (m := 3) (by omega)
  have hB4 := DB_b (y := YR d) (m := 4) (by omega)
  have hB5 := DB_b (y := YR d) (m := 5) (by omega)
  have hB6 := DB_b (y := YR d) (m := 6) (by omega)
  have hB7 := DB_b (y := YR d) (m := 7) (by omega)
  have hB8 := DB_b (y := YR d) (m := 8) (by omega)
  have hB9 := DB_b (y := YR d) (m := 9) (by omega)
  have hB10 := DB_b (y := YR d) (m := 10) (by omega)
  have hB11 := DB_b (y := YR d) (m := 11) (by omega)
  have hB12 := DB_b (y := YR d) (m := 12) (by omega)
  refine r_iload_n hX dX0_monthOf_0 rfl rfl (r_callS hX (z_X0_yearOf _ _ _ (by first | with_reducible assumption | decide | omega)) ks_X0_33 rfl rfl (Nat.le_of_ble_eq_true rfl) ⟨(Nat.le_of_ble_eq_true rfl), (Nat.le_of_ble_eq_true rfl)⟩ ⟨(Nat.le_of_ble_eq_true rfl), (Nat.le_of_ble_eq_true rfl)⟩ dX0_monthOf_1 (fun _ _ z => False.elim z) (fun v9 ws9 h1 => ?_))
  obtain ⟨rfl, hw9⟩ := h1
  subst ws9
  dsimp only [mPush]
  refine r_istore_n hX dX0_monthOf_4 rfl (by decide) rfl (r_iload_n hX dX0_monthOf_5 rfl rfl (r_iload_n hX dX0_monthOf_6 rfl rfl (r_callS hX (z_X0_firstDayOf _ _ _ (YR d) (by first | with_reducible assumption | decide | omega) (by first | with_reducible assumption | decide | omega)) ks_X0_26 rfl rfl (Nat.le_of_ble_eq_true rfl) ⟨(Nat.le_of_ble_eq_true rfl), (Nat.le_of_ble_eq_true rfl)⟩ ⟨(Nat.le_of_ble_eq_true rfl), (Nat.le_of_ble_eq_true rfl)⟩ dX0_monthOf_7 (fun _ _ z => False.elim z) (fun v9 ws9 h2 => ?_))))
  obtain ⟨rfl, hw9⟩ := h2
  subst ws9
  dsimp only [mPush]
  refine r_isubZ hX dX0_monthOf_10 (r_istore_n hX dX0_monthOf_11 rfl (by decide) rfl (r_iconstZ hX dX0_monthOf_12 (r_istore_n hX dX0_monthOf_13 rfl (by decide) rfl (r_iload_n hX dX0_monthOf_14 rfl rfl (r_bipushZ hX dX0_monthOf_15 (by decide +kernel) (r_icmp_geZ (tgt := 37) hX dX0_monthOf_17 (by decide) (by decide) (by decide) (fun q => absurd q (by decide)) (fun _ => ?_)))))))
  refine r_iload_n hX dX0_monthOf_20 rfl rfl (r_iload_n hX dX0_monthOf_21 rfl rfl (r_iload_n hX dX0_monthOf_22 rfl rfl (r_iconstZ hX dX0_monthOf_23 (r_iaddZ hX dX0_monthOf_24 (r_callS hX (z_X0_daysBeforeMonth _ _ _ (YR d) (by first | with_reducible assumption | decide | omega) (by first | with_reducible assumption | decide | omega) _ 2 (by first | with_reducible assumption | decide | omega) (by first | with_reducible assumption | decide | omega)) ks_X0_30 rfl rfl (Nat.le_of_ble_eq_true rfl) ⟨(Nat.le_of_ble_eq_true rfl), (Nat.le_of_ble_eq_true rfl)⟩ ⟨(Nat.le_of_ble_eq_true rfl), (Nat.le_of_ble_eq_true rfl)⟩ dX0_monthOf_25 (fun _ _ z => False.elim z) (fun v9 ws9 h3 => ?_))))))
  obtain ⟨rfl, hw9⟩ := h3
  subst ws9
  dsimp only [mPush]
  refine r_icmp_ltZ (tgt := 37) hX dX0_monthOf_28 (by decide) (by first | with_reducible assumption | decide | omega) (by first | with_reducible assumption | decide | omega) (fun c4 => ?_) (fun c4 => ?_)
  · refine r_iload_n hX dX0_monthOf_37 rfl rfl (r_iret hX hE dX0_monthOf_38 (Nat.le_of_ble_eq_true rfl) (Nat.le_of_ble_eq_true rfl) ⟨zi ?_, rfl⟩)
    show (1 : Int) = ((MOy (YR d) (d - FO (YR d)) : Nat) : Int)
    unfold MOy
    rw [if_pos (by omega)]
    rfl
  · refine r_iincZ (z := 1) (y := 2) hX dX0_monthOf_31 rfl (by decide) rfl rfl (r_goto (tgt := 14) hX dX0_monthOf_34 (by decide) (r_iload_n hX dX0_monthOf_14 rfl rfl (r_bipushZ hX dX0_monthOf_15 (by decide +kernel) (r_icmp_geZ (tgt := 37) hX dX0_monthOf_17 (by decide) (by decide) (by decide) (fun q => absurd q (by decide)) (fun _ => ?_)))))
    refine r_iload_n hX dX0_monthOf_20 rfl rfl (r_iload_n hX dX0_monthOf_21 rfl rfl (r_iload_n hX dX0_monthOf_22 rfl rfl (r_iconstZ hX dX0_monthOf_23 (r_iaddZ hX dX0_monthOf_24 (r_callS hX (z_X0_daysBeforeMonth _ _ _ (YR d) (by first | with_reducible assumption | decide | omega) (by first | with_reducible assumption | decide | omega) _ 3 (by first | with_reducible assumption | decide | omega) (by first | with_reducible assumption | decide | omega)) ks_X0_30 rfl rfl (Nat.le_of_ble_eq_true rfl) ⟨(Nat.le_of_ble_eq_true rfl), (Nat.le_of_ble_eq_true rfl)⟩ ⟨(Nat.le_of_ble_eq_true rfl), (Nat.le_of_ble_eq_true rfl)⟩ dX0_monthOf_25 (fun _ _ z => False.elim z) (fun v9 ws9 h5 => ?_))))))
    obtain ⟨rfl, hw9⟩ := h5
    subst ws9
    dsimp only [mPush]
    refine r_icmp_ltZ (tgt := 37) hX dX0_monthOf_28 (by decide) (by first | with_reducible assumption | decide | omega) (by first | with_reducible assumption | decide | omega) (fun c6 => ?_) (fun c6 => ?_)
    · refine r_iload_n hX dX0_monthOf_37 rfl rfl (r_iret hX hE dX0_monthOf_38 (Nat.le_of_ble_eq_true rfl) (Nat.le_of_ble_eq_true rfl) ⟨zi ?_, rfl⟩)
      show (2 : Int) = ((MOy (YR d) (d - FO (YR d)) : Nat) : Int)
      unfold MOy
      rw [if_neg (by omega)]
      rw [if_pos (by omega)]
      rfl
    · refine r_iincZ (z := 1) (y := 3) hX dX0_monthOf_31 rfl (by decide) rfl rfl (r_goto (tgt := 14) hX dX0_monthOf_34 (by decide) (r_iload_n hX dX0_monthOf_14 rfl rfl (r_bipushZ hX dX0_monthOf_15 (by decide +kernel) (r_icmp_geZ (tgt := 37) hX dX0_monthOf_17 (by decide) (by decide) (by decide) (fun q => absurd q (by decide)) (fun _ => ?_)))))
      refine r_iload_n hX dX0_monthOf_20 rfl rfl (r_iload_n hX dX0_monthOf_21 rfl rfl (r_iload_n hX dX0_monthOf_22 rfl rfl (r_iconstZ hX dX0_monthOf_23 (r_iaddZ hX dX0_monthOf_24 (r_callS hX (z_X0_daysBeforeMonth _ _ _ (YR d) (by first | with_reducible assumption | decide | omega) (by first | with_reducible assumption | decide | omega) _ 4 (by first | with_reducible assumption | decide | omega) (by first | with_reducible assumption | decide | omega)) ks_X0_30 rfl rfl (Nat.le_of_ble_eq_true rfl) ⟨(Nat.le_of_ble_eq_true rfl), (Nat.le_of_ble_eq_true rfl)⟩ ⟨(Nat.le_of_ble_eq_true rfl), (Nat.le_of_ble_eq_true rfl)⟩ dX0_monthOf_25 (fun _ _ z => False.elim z) (fun v9 ws9 h7 => ?_))))))
      obtain ⟨rfl, hw9⟩ := h7
      subst ws9
      dsimp only [mPush]
      refine r_icmp_ltZ (tgt := 37) hX dX0_monthOf_28 (by decide) (by first | with_reducible assumption | decide | omega) (by first | with_reducible assumption | decide | omega) (fun c8 => ?_) (fun c8 => ?_)
      · refine r_iload_n hX dX0_monthOf_37 rfl rfl (r_iret hX hE dX0_monthOf_38 (Nat.le_of_ble_eq_true rfl) (Nat.le_of_ble_eq_true rfl) ⟨zi ?_, rfl⟩)
        show (3 : Int) = ((MOy (YR d) (d - FO (YR d)) : Nat) : Int)
        unfold MOy
        rw [if_neg (by omega)]
        rw [if_neg (by omega)]
        rw [if_pos (by omega)]
        rfl
      · refine r_iincZ (z := 1) (y := 4) hX dX0_monthOf_31 rfl (by decide) rfl rfl (r_goto (tgt := 14) hX dX0_monthOf_34 (by decide) (r_iload_n hX dX0_monthOf_14 rfl rfl (r_bipushZ hX dX0_monthOf_15 (by decide +kernel) (r_icmp_geZ (tgt := 37) hX dX0_monthOf_17 (by decide) (by decide) (by decide) (fun q => absurd q (by decide)) (fun _ => ?_)))))
        refine r_iload_n hX dX0_monthOf_20 rfl rfl (r_iload_n hX dX0_monthOf_21 rfl rfl (r_iload_n hX dX0_monthOf_22 rfl rfl (r_iconstZ hX dX0_monthOf_23 (r_iaddZ hX dX0_monthOf_24 (r_callS hX (z_X0_daysBeforeMonth _ _ _ (YR d) (by first | with_reducible assumption | decide | omega) (by first | with_reducible assumption | decide | omega) _ 5 (by first | with_reducible assumption | decide | omega) (by first | with_reducible assumption | decide | omega)) ks_X0_30 rfl rfl (Nat.le_of_ble_eq_true rfl) ⟨(Nat.le_of_ble_eq_true rfl), (Nat.le_of_ble_eq_true rfl)⟩ ⟨(Nat.le_of_ble_eq_true rfl), (Nat.le_of_ble_eq_true rfl)⟩ dX0_monthOf_25 (fun _ _ z => False.elim z) (fun v9 ws9 h9 => ?_))))))
        obtain ⟨rfl, hw9⟩ := h9
        subst ws9
        dsimp only [mPush]
        refine r_icmp_ltZ (tgt := 37) hX dX0_monthOf_28 (by decide) (by first | with_reducible assumption | decide | omega) (by first | with_reducible assumption | decide | omega) (fun c10 => ?_) (fun c10 => ?_)
        · refine r_iload_n hX dX0_monthOf_37 rfl rfl (r_iret hX hE dX0_monthOf_38 (Nat.le_of_ble_eq_true rfl) (Nat.le_of_ble_eq_true rfl) ⟨zi ?_, rfl⟩)
          show (4 : Int) = ((MOy (YR d) (d - FO (YR d)) : Nat) : Int)
          unfold MOy
          rw [if_neg (by omega)]
          rw [if_neg (by omega)]
          rw [if_neg (by omega)]
          rw [if_pos (by omega)]
          rfl
        · refine r_iincZ (z := 1) (y := 5) hX dX0_monthOf_31 rfl (by decide) rfl rfl (r_goto (tgt := 14) hX dX0_monthOf_34 (by decide) (r_iload_n hX dX0_monthOf_14 rfl rfl (r_bipushZ hX dX0_monthOf_15 (by decide +kernel) (r_icmp_geZ (tgt := 37) hX dX0_monthOf_17 (by decide) (by decide) (by decide) (fun q => absurd q (by decide)) (fun _ => ?_)))))
          refine r_iload_n hX dX0_monthOf_20 rfl rfl (r_iload_n hX dX0_monthOf_21 rfl rfl (r_iload_n hX dX0_monthOf_22 rfl rfl (r_iconstZ hX dX0_monthOf_23 (r_iaddZ hX dX0_monthOf_24 (r_callS hX (z_X0_daysBeforeMonth _ _ _ (YR d) (by first | with_reducible assumption | decide | omega) (by first | with_reducible assumption | decide | omega) _ 6 (by first | with_reducible assumption | decide | omega) (by first | with_reducible assumption | decide | omega)) ks_X0_30 rfl rfl (Nat.le_of_ble_eq_true rfl) ⟨(Nat.le_of_ble_eq_true rfl), (Nat.le_of_ble_eq_true rfl)⟩ ⟨(Nat.le_of_ble_eq_true rfl), (Nat.le_of_ble_eq_true rfl)⟩ dX0_monthOf_25 (fun _ _ z => False.elim z) (fun v9 ws9 h11 => ?_))))))
          obtain ⟨rfl, hw9⟩ := h11
          subst ws9
          dsimp only [mPush]
          refine r_icmp_ltZ (tgt := 37) hX dX0_monthOf_28 (by decide) (by first | with_reducible assumption | decide | omega) (by first | with_reducible assumption | decide | omega) (fun c12 => ?_) (fun c12 => ?_)
          · refine r_iload_n hX dX0_monthOf_37 rfl rfl (r_iret hX hE dX0_monthOf_38 (Nat.le_of_ble_eq_true rfl) (Nat.le_of_ble_eq_true rfl) ⟨zi ?_, rfl⟩)
            show (5 : Int) = ((MOy (YR d) (d - FO (YR d)) : Nat) : Int)
            unfold MOy
            rw [if_neg (by omega)]
            rw [if_neg (by omega)]
            rw [if_neg (by omega)]
            rw [if_neg (by omega)]
            rw [if_pos (by omega)]
            rfl
          · refine r_iincZ (z := 1) (y := 6) hX dX0_monthOf_31 rfl (by decide) rfl rfl (r_goto (tgt := 14) hX dX0_monthOf_34 (by decide) (r_iload_n hX dX0_monthOf_14 rfl rfl (r_bipushZ hX dX0_monthOf_15 (by decide +kernel) (r_icmp_geZ (tgt := 37) hX dX0_monthOf_17 (by decide) (by decide) (by decide) (fun q => absurd q (by decide)) (fun _ => ?_)))))
            refine r_iload_n hX dX0_monthOf_20 rfl rfl (r_iload_n hX dX0_monthOf_21 rfl rfl (r_iload_n hX dX0_monthOf_22 rfl rfl (r_iconstZ hX dX0_monthOf_23 (r_iaddZ hX dX0_monthOf_24 (r_callS hX (z_X0_daysBeforeMonth _ _ _ (YR d) (by first | with_reducible assumption | decide | omega) (by first | with_reducible assumption | decide | omega) _ 7 (by first | with_reducible assumption | decide | omega) (by first | with_reducible assumption | decide | omega)) ks_X0_30 rfl rfl (Nat.le_of_ble_eq_true rfl) ⟨(Nat.le_of_ble_eq_true rfl), (Nat.le_of_ble_eq_true rfl)⟩ ⟨(Nat.le_of_ble_eq_true rfl), (Nat.le_of_ble_eq_true rfl)⟩ dX0_monthOf_25 (fun _ _ z => False.elim z) (fun v9 ws9 h13 => ?_))))))
            obtain ⟨rfl, hw9⟩ := h13
            subst ws9
            dsimp only [mPush]
            refine r_icmp_ltZ (tgt := 37) hX dX0_monthOf_28 (by decide) (by first | with_reducible assumption | decide | omega) (by first | with_reducible assumption | decide | omega) (fun c14 => ?_) (fun c14 => ?_)
            · refine r_iload_n hX dX0_monthOf_37 rfl rfl (r_iret hX hE dX0_monthOf_38 (Nat.le_of_ble_eq_true rfl) (Nat.le_of_ble_eq_true rfl) ⟨zi ?_, rfl⟩)
              show (6 : Int) = ((MOy (YR d) (d - FO (YR d)) : Nat) : Int)
              unfold MOy
              rw [if_neg (by omega)]
              rw [if_neg (by omega)]
              rw [if_neg (by omega)]
              rw [if_neg (by omega)]
              rw [if_neg (by omega)]
              rw [if_pos (by omega)]
              rfl
            · refine r_iincZ (z := 1) (y := 7) hX dX0_monthOf_31 rfl (by decide) rfl rfl (r_goto (tgt := 14) hX dX0_monthOf_34 (by decide) (r_iload_n hX dX0_monthOf_14 rfl rfl (r_bipushZ hX dX0_monthOf_15 (by decide +kernel) (r_icmp_geZ (tgt := 37) hX dX0_monthOf_17 (by decide) (by decide) (by decide) (fun q => absurd q (by decide)) (fun _ => ?_)))))
              refine r_iload_n hX dX0_monthOf_20 rfl rfl (r_iload_n hX dX0_monthOf_21 rfl rfl (r_iload_n hX dX0_monthOf_22 rfl rfl (r_iconstZ hX dX0_monthOf_23 (r_iaddZ hX dX0_monthOf_24 (r_callS hX (z_X0_daysBeforeMonth _ _ _ (YR d) (by first | with_reducible assumption | decide | omega) (by first | with_reducible assumption | decide | omega) _ 8 (by first | with_reducible assumption | decide | omega) (by first | with_reducible assumption | decide | omega)) ks_X0_30 rfl rfl (Nat.le_of_ble_eq_true rfl) ⟨(Nat.le_of_ble_eq_true rfl), (Nat.le_of_ble_eq_true rfl)⟩ ⟨(Nat.le_of_ble_eq_true rfl), (Nat.le_of_ble_eq_true rfl)⟩ dX0_monthOf_25 (fun _ _ z => False.elim z) (fun v9 ws9 h15 => ?_))))))
              obtain ⟨rfl, hw9⟩ := h15
              subst ws9
              dsimp only [mPush]
              refine r_icmp_ltZ (tgt := 37) hX dX0_monthOf_28 (by decide) (by first | with_reducible assumption | decide | omega) (by first | with_reducible assumption | decide | omega) (fun c16 => ?_) (fun c16 => ?_)
              · refine r_iload_n hX dX0_monthOf_37 rfl rfl (r_iret hX hE dX0_monthOf_38 (Nat.le_of_ble_eq_true rfl) (Nat.le_of_ble_eq_true rfl) ⟨zi ?_, rfl⟩)
                show (7 : Int) = ((MOy (YR d) (d - FO (YR d)) : Nat) : Int)
                unfold MOy
                rw [if_neg (by omega)]
                rw [if_neg (by omega)]
                rw [if_neg (by omega)]
                rw [if_neg (by omega)]
                rw [if_neg (by omega)]
                rw [if_neg (by omega)]
                rw [if_pos (by omega)]
                rfl
              · refine r_iincZ (z := 1) (y := 8) hX dX0_monthOf_31 rfl (by decide) rfl rfl (r_goto (tgt := 14) hX dX0_monthOf_34 (by decide) (r_iload_n hX dX0_monthOf_14 rfl rfl (r_bipushZ hX dX0_monthOf_15 (by decide +kernel) (r_icmp_geZ (tgt := 37) hX dX0_monthOf_17 (by decide) (by decide) (by decide) (fun q => absurd q (by decide)) (fun _ => ?_)))))
                refine r_iload_n hX dX0_monthOf_20 rfl rfl (r_iload_n hX dX0_monthOf_21 rfl rfl (r_iload_n hX dX0_monthOf_22 rfl rfl (r_iconstZ hX dX0_monthOf_23 (r_iaddZ hX dX0_monthOf_24 (r_callS hX (z_X0_daysBeforeMonth _ _ _ (YR d) (by first | with_reducible assumption | decide | omega) (by first | with_reducible assumption | decide | omega) _ 9 (by first | with_reducible assumption | decide | omega) (by first | with_reducible assumption | decide | omega)) ks_X0_30 rfl rfl (Nat.le_of_ble_eq_true rfl) ⟨(Nat.le_of_ble_eq_true rfl), (Nat.le_of_ble_eq_true rfl)⟩ ⟨(Nat.le_of_ble_eq_true rfl), (Nat.le_of_ble_eq_true rfl)⟩ dX0_monthOf_25 (fun _ _ z => False.elim z) (fun v9 ws9 h17 => ?_))))))
                obtain ⟨rfl, hw9⟩ := h17
                subst ws9
                dsimp only [mPush]
                refine r_icmp_ltZ (tgt := 37) hX dX0_monthOf_28 (by decide) (by first | with_reducible assumption | decide | omega) (by first | with_reducible assumption | decide | omega) (fun c18 => ?_) (fun c18 => ?_)
                · refine r_iload_n hX dX0_monthOf_37 rfl rfl (r_iret hX hE dX0_monthOf_38 (Nat.le_of_ble_eq_true rfl) (Nat.le_of_ble_eq_true rfl) ⟨zi ?_, rfl⟩)
                  show (8 : Int) = ((MOy (YR d) (d - FO (YR d)) : Nat) : Int)
                  unfold MOy
                  rw [if_neg (by omega)]
                  rw [if_neg (by omega)]
                  rw [if_neg (by omega)]
                  rw [if_neg (by omega)]
                  rw [if_neg (by omega)]
                  rw [if_neg (by omega)]
                  rw [if_neg (by omega)]
                  rw [if_pos (by omega)]
                  rfl
                · refine r_iincZ (z := 1) (y := 9) hX dX0_monthOf_31 rfl (by decide) rfl rfl (r_goto (tgt := 14) hX dX0_monthOf_34 (by decide) (r_iload_n hX dX0_monthOf_14 rfl rfl (r_bipushZ hX dX0_monthOf_15 (by decide +kernel) (r_icmp_geZ (tgt := 37) hX dX0_monthOf_17 (by decide) (by decide) (by decide) (fun q => absurd q (by decide)) (fun _ => ?_)))))
                  refine r_iload_n hX dX0_monthOf_20 rfl rfl (r_iload_n hX dX0_monthOf_21 rfl rfl (r_iload_n hX dX0_monthOf_22 rfl rfl (r_iconstZ hX dX0_monthOf_23 (r_iaddZ hX dX0_monthOf_24 (r_callS hX (z_X0_daysBeforeMonth _ _ _ (YR d) (by first | with_reducible assumption | decide | omega) (by first | with_reducible assumption | decide | omega) _ 10 (by first | with_reducible assumption | decide | omega) (by first | with_reducible assumption | decide | omega)) ks_X0_30 rfl rfl (Nat.le_of_ble_eq_true rfl) ⟨(Nat.le_of_ble_eq_true rfl), (Nat.le_of_ble_eq_true rfl)⟩ ⟨(Nat.le_of_ble_eq_true rfl), (Nat.le_of_ble_eq_true rfl)⟩ dX0_monthOf_25 (fun _ _ z => False.elim z) (fun v9 ws9 h19 => ?_))))))
                  obtain ⟨rfl, hw9⟩ := h19
                  subst ws9
                  dsimp only [mPush]
                  refine r_icmp_ltZ (tgt := 37) hX dX0_monthOf_28 (by decide) (by first | with_reducible assumption | decide | omega) (by first | with_reducible assumption | decide | omega) (fun c20 => ?_) (fun c20 => ?_)
                  · refine r_iload_n hX dX0_monthOf_37 rfl rfl (r_iret hX hE dX0_monthOf_38 (Nat.le_of_ble_eq_true rfl) (Nat.le_of_ble_eq_true rfl) ⟨zi ?_, rfl⟩)
                    show (9 : Int) = ((MOy (YR d) (d - FO (YR d)) : Nat) : Int)
                    unfold MOy
                    rw [if_neg (by omega)]
                    rw [if_neg (by omega)]
                    rw [if_neg (by omega)]
                    rw [if_neg (by omega)]
                    rw [if_neg (by omega)]
                    rw [if_neg (by omega)]
                    rw [if_neg (by omega)]
                    rw [if_neg (by omega)]
                    rw [if_pos (by omega)]
                    rfl
                  · refine r_iincZ (z := 1) (y := 10) hX dX0_monthOf_31 rfl (by decide) rfl rfl (r_lc4 (i0 := 0) (i1 := 1) (i2 := 2) (i3 := 3) rfl rfl rfl rfl (r_goto (tgt := 14) hX dX0_monthOf_34 (by decide) (r_iload_n hX dX0_monthOf_14 rfl rfl (r_bipushZ hX dX0_monthOf_15 (by decide +kernel) (r_icmp_geZ (tgt := 37) hX dX0_monthOf_17 (by decide) (by decide) (by decide) (fun q => absurd q (by decide)) (fun _ => ?_))))))
                    refine r_iload_n hX dX0_monthOf_20 rfl rfl (r_iload_n hX dX0_monthOf_21 rfl rfl (r_iload_n hX dX0_monthOf_22 rfl rfl (r_iconstZ hX dX0_monthOf_23 (r_iaddZ hX dX0_monthOf_24 (r_callS hX (z_X0_daysBeforeMonth _ _ _ (YR d) (by first | with_reducible assumption | decide | omega) (by first | with_reducible assumption | decide | omega) _ 11 (by first | with_reducible assumption | decide | omega) (by first | with_reducible assumption | decide | omega)) ks_X0_30 rfl rfl (Nat.le_of_ble_eq_true rfl) ⟨(Nat.le_of_ble_eq_true rfl), (Nat.le_of_ble_eq_true rfl)⟩ ⟨(Nat.le_of_ble_eq_true rfl), (Nat.le_of_ble_eq_true rfl)⟩ dX0_monthOf_25 (fun _ _ z => False.elim z) (fun v9 ws9 h21 => ?_))))))
                    obtain ⟨rfl, hw9⟩ := h21
                    subst ws9
                    dsimp only [mPush]
                    refine r_icmp_ltZ (tgt := 37) hX dX0_monthOf_28 (by decide) (by first | with_reducible assumption | decide | omega) (by first | with_reducible assumption | decide | omega) (fun c22 => ?_) (fun c22 => ?_)
                    · refine r_iload_n hX dX0_monthOf_37 rfl rfl (r_iret hX hE dX0_monthOf_38 (Nat.le_of_ble_eq_true rfl) (Nat.le_of_ble_eq_true rfl) ⟨zi ?_, rfl⟩)
                      show (10 : Int) = ((MOy (YR d) (d - FO (YR d)) : Nat) : Int)
                      unfold MOy
                      rw [if_neg (by omega)]
                      rw [if_neg (by omega)]
                      rw [if_neg (by omega)]
                      rw [if_neg (by omega)]
                      rw [if_neg (by omega)]
                      rw [if_neg (by omega)]
                      rw [if_neg (by omega)]
                      rw [if_neg (by omega)]
                      rw [if_neg (by omega)]
                      rw [if_pos (by omega)]
                      rfl
                    · refine r_iincZ (z := 1) (y := 11) hX dX0_monthOf_31 rfl (by decide) rfl rfl (r_goto (tgt := 14) hX dX0_monthOf_34 (by decide) (r_iload_n hX dX0_monthOf_14 rfl rfl (r_bipushZ hX dX0_monthOf_15 (by decide +kernel) (r_icmp_geZ (tgt := 37) hX dX0_monthOf_17 (by decide) (by decide) (by decide) (fun q => absurd q (by decide)) (fun _ => ?_)))))
                      refine r_iload_n hX dX0_monthOf_20 rfl rfl (r_iload_n hX dX0_monthOf_21 rfl rfl (r_iload_n hX dX0_monthOf_22 rfl rfl (r_iconstZ hX dX0_monthOf_23 (r_iaddZ hX dX0_monthOf_24 (r_callS hX (z_X0_daysBeforeMonth _ _ _ (YR d) (by first | with_reducible assumption | decide | omega) (by first | with_reducible assumption | decide | omega) _ 12 (by first | with_reducible assumption | decide | omega) (by first | with_reducible assumption | decide | omega)) ks_X0_30 rfl rfl (Nat.le_of_ble_eq_true rfl) ⟨(Nat.le_of_ble_eq_true rfl), (Nat.le_of_ble_eq_true rfl)⟩ ⟨(Nat.le_of_ble_eq_true rfl), (Nat.le_of_ble_eq_true rfl)⟩ dX0_monthOf_25 (fun _ _ z => False.elim z) (fun v9 ws9 h23 => ?_))))))
                      obtain ⟨rfl, hw9⟩ := h23
                      subst ws9
                      dsimp only [mPush]
                      refine r_icmp_ltZ (tgt := 37) hX dX0_monthOf_28 (by decide) (by first | with_reducible assumption | decide | omega) (by first | with_reducible assumption | decide | omega) (fun c24 => ?_) (fun c24 => ?_)
                      · refine r_iload_n hX dX0_monthOf_37 rfl rfl (r_iret hX hE dX0_monthOf_38 (Nat.le_of_ble_eq_true rfl) (Nat.le_of_ble_eq_true rfl) ⟨zi ?_, rfl⟩)
                        show (11 : Int) = ((MOy (YR d) (d - FO (YR d)) : Nat) : Int)
                        unfold MOy
                        rw [if_neg (by omega)]
                        rw [if_neg (by omega)]
                        rw [if_neg (by omega)]
                        rw [if_neg (by omega)]
                        rw [if_neg (by omega)]
                        rw [if_neg (by omega)]
                        rw [if_neg (by omega)]
                        rw [if_neg (by omega)]
                        rw [if_neg (by omega)]
                        rw [if_neg (by omega)]
                        rw [if_pos (by omega)]
                        rfl
                      · refine r_iincZ (z := 1) (y := 12) hX dX0_monthOf_31 rfl (by decide) rfl rfl (r_goto (tgt := 14) hX dX0_monthOf_34 (by decide) (r_iload_n hX dX0_monthOf_14 rfl rfl (r_bipushZ hX dX0_monthOf_15 (by decide +kernel) (r_icmp_geZ (tgt := 37) hX dX0_monthOf_17 (by decide) (by decide) (by decide) (fun _ => ?_) (fun q => absurd (by decide) q)))))
                        refine r_iload_n hX dX0_monthOf_37 rfl rfl (r_iret hX hE dX0_monthOf_38 (Nat.le_of_ble_eq_true rfl) (Nat.le_of_ble_eq_true rfl) ⟨zi ?_, rfl⟩)
                        show (12 : Int) = ((MOy (YR d) (d - FO (YR d)) : Nat) : Int)
                        unfold MOy
                        rw [if_neg (by omega)]
                        rw [if_neg (by omega)]
                        rw [if_neg (by omega)]
                        rw [if_neg (by omega)]
                        rw [if_neg (by omega)]
                        rw [if_neg (by omega)]
                        rw [if_neg (by omega)]
                        rw [if_neg (by omega)]
                        rw [if_neg (by omega)]
                        rw [if_neg (by omega)]
                        rw [if_neg (by omega)]
                        rfl
set_option maxHeartbeats 4000000 in
set_option maxRecDepth 20000 in
theorem z_X0_dayOfMonth (tys : List (ClassId × FieldType)) (ws : va_W) (d : Int) (hd : -21915 ≤ d ∧ d ≤ 22279)  : mCt tys yX0_dayOfMonth cX0_dayOfMonth 1 (some .int) ⟨3, 0, 0, 65⟩ [.int (iZ d)] ws (fun v ws' => v = some (.int (iZ (DOM d))) ∧ ws' = ws) mNo := by
  refine mCt.of (by decide +kernel) (Nat.le_of_ble_eq_true rfl) (fun X hX hE => ?_)
  replace hX : mOK X RX0 cX0_dayOfMonth 1 ⟨3, 0, 0, 65⟩ [] tys := hX
  have hs := YR_spec hd.1 hd.2
  have hb := FO_b (y := YR d) (by omega)
  have hn := FO_s (y := YR d) (by omega)
  have hl := yl_b (YR d)
  have hmo := MO_b d
  refine r_iload_n hX dX0_dayOfMonth_0 rfl rfl (r_callS hX (z_X0_dayOfYear _ _ _ (by first | with_reducible assumption | decide | omega)) ks_X0_36 rfl rfl (Nat.le_of_ble_eq_true rfl) ⟨(Nat.le_of_ble_eq_true rfl), (Nat.le_of_ble_eq_true rfl)⟩ ⟨(Nat.le_of_ble_eq_true rfl), (Nat.le_of_ble_eq_true rfl)⟩ dX0_dayOfMonth_1 (fun _ _ z => False.elim z) (fun v9 ws9 h1 => ?_))
  obtain ⟨rfl, hw9⟩ := h1
  subst ws9
  dsimp only [mPush]
  refine r_iload_n hX dX0_dayOfMonth_4 rfl rfl (r_callS hX (z_X0_yearOf _ _ _ (by first | with_reducible assumption | decide | omega)) ks_X0_33 rfl rfl (Nat.le_of_ble_eq_true rfl) ⟨(Nat.le_of_ble_eq_true rfl), (Nat.le_of_ble_eq_true rfl)⟩ ⟨(Nat.le_of_ble_eq_true rfl), (Nat.le_of_ble_eq_true rfl)⟩ dX0_dayOfMonth_5 (fun _ _ z => False.elim z) (fun v9 ws9 h2 => ?_))
  obtain ⟨rfl, hw9⟩ := h2
  subst ws9
  dsimp only [mPush]
  refine r_iload_n hX dX0_dayOfMonth_8 rfl rfl (r_callS hX (z_X0_monthOf _ _ _ (by first | with_reducible assumption | decide | omega)) ks_X0_39 rfl rfl (Nat.le_of_ble_eq_true rfl) ⟨(Nat.le_of_ble_eq_true rfl), (Nat.le_of_ble_eq_true rfl)⟩ ⟨(Nat.le_of_ble_eq_true rfl), (Nat.le_of_ble_eq_true rfl)⟩ dX0_dayOfMonth_9 (fun _ _ z => False.elim z) (fun v9 ws9 h3 => ?_))
  obtain ⟨rfl, hw9⟩ := h3
  subst ws9
  dsimp only [mPush]
  refine r_callS hX (z_X0_daysBeforeMonth _ _ _ (YR d) (by first | with_reducible assumption | decide | omega) (by first | with_reducible assumption | decide | omega) _ (MO d) (by first | with_reducible assumption | decide | omega) (by first | with_reducible assumption | decide | omega)) ks_X0_30 rfl rfl (Nat.le_of_ble_eq_true rfl) ⟨(Nat.le_of_ble_eq_true rfl), (Nat.le_of_ble_eq_true rfl)⟩ ⟨(Nat.le_of_ble_eq_true rfl), (Nat.le_of_ble_eq_true rfl)⟩ dX0_dayOfMonth_12 (fun _ _ z => False.elim z) (fun v9 ws9 h4 => ?_)
  obtain ⟨rfl, hw9⟩ := h4
  subst ws9
  dsimp only [mPush]
  refine r_isubZ hX dX0_dayOfMonth_15 (r_iret hX hE dX0_dayOfMonth_16 (Nat.le_of_ble_eq_true rfl) (Nat.le_of_ble_eq_true rfl) ⟨zi ?_, rfl⟩)
  unfold DOM
  omega
set_option maxHeartbeats 4000000 in
set_option maxRecDepth 20000 in
theorem z_X0_dayOfWeek (tys : List (ClassId × FieldType)) (ws : va_W) (d : Int) (hd : -100000 ≤ d ∧ d ≤ 100000)  : mCt tys yX0_dayOfWeek cX0_dayOfWeek 1 (some .int) ⟨1, 0, 0, 22⟩ [.int (iZ d)] ws (fun v ws' => v = some (.int (iZ ((d + 3) % 7 + 1))) ∧ ws' = ws) mNo := by
  refine mCt.of (by decide +kernel) (Nat.le_of_ble_eq_true rfl) (fun X hX hE => ?_)
  replace hX : mOK X RX0 cX0_dayOfWeek 1 ⟨1, 0, 0, 22⟩ [] tys := hX
  refine r_iload_n hX dX0_dayOfWeek_0 rfl rfl (r_iconstZ hX dX0_dayOfWeek_1 (r_iaddZ hX dX0_dayOfWeek_2 (r_bipushZ hX dX0_dayOfWeek_3 (by decide +kernel) (r_callS hX (z_J9_floorModI _ _ _ _ (by first | with_reducible assumption | decide | omega) rfl) ks_X0_42 rfl rfl (Nat.le_of_ble_eq_true rfl) ⟨(Nat.le_of_ble_eq_true rfl), (Nat.le_of_ble_eq_true rfl)⟩ ⟨(Nat.le_of_ble_eq_true rfl), (Nat.le_of_ble_eq_true rfl)⟩ dX0_dayOfWeek_5 (fun _ _ z => False.elim z) (fun v9 ws9 h1 => ?_)))))
  obtain ⟨rfl, hw9⟩ := h1
  subst ws9
  dsimp only [mPush]
  refine r_iconstZ hX dX0_dayOfWeek_8 (r_iaddZ hX dX0_dayOfWeek_9 (r_iret hX hE dX0_dayOfWeek_10 (Nat.le_of_ble_eq_true rfl) (Nat.le_of_ble_eq_true rfl) ⟨zi ?_, rfl⟩))
  rfl
end
-- 65 zloc
section
/-! The class, exact (rows by a program of this repository). -/
def cmpZ (a b : Int) : Int := if a < b then -1 else if b < a then 1 else 0
theorem cmpZ_b (a b : Int) : -1 ≤ cmpZ a b ∧ cmpZ a b ≤ 1 := by
  unfold cmpZ
  repeat' split
  all_goals omega
theorem cmpZ_s (a b : Int) : (a < b ∧ cmpZ a b = -1) ∨ (a = b ∧ cmpZ a b = 0) ∨ (b < a ∧ cmpZ a b = 1) := by
  unfold cmpZ
  repeat' split
  all_goals omega
/-- by moments; by moments, then by local times -/
def zMo (s n o s0 n0 o0 : Int) : Int := if cmpZ (s - o) (s0 - o0) = 0 then cmpZ n n0 else cmpZ (s - o) (s0 - o0)
def zTo (s n o s0 n0 o0 : Int) : Int := if zMo s n o s0 n0 o0 = 0 then cmpZ s s0 else zMo s n o s0 n0 o0
theorem zMo_b (s n o s0 n0 o0 : Int) : -1 ≤ zMo s n o s0 n0 o0 ∧ zMo s n o s0 n0 o0 ≤ 1 := by
  unfold zMo
  split
  · exact cmpZ_b _ _
  · exact cmpZ_b _ _
theorem zTo_b (s n o s0 n0 o0 : Int) : -1 ≤ zTo s n o s0 n0 o0 ∧ zTo s n o s0 n0 o0 ≤ 1 := by
  unfold zTo
  split
  · exact cmpZ_b _ _
  · exact zMo_b _ _ _ _ _ _
theorem zMo_s (s n o s0 n0 o0 : Int) : ((s - o < s0 - o0 ∨ (s - o = s0 - o0 ∧ n < n0)) ∧ zMo s n o s0 n0 o0 = -1) ∨ ((s - o = s0 - o0 ∧ n = n0) ∧ zMo s n o s0 n0 o0 = 0) ∨ ((s0 - o0 < s - o ∨ (s - o = s0 - o0 ∧ n0 < n)) ∧ zMo s n o s0 n0 o0 = 1) := by
  have h1 := cmpZ_s (s - o) (s0 - o0)
  have h2 := cmpZ_s n n0
  unfold zMo
  split
  · omega
  · omega
theorem zTo_s (s n o s0 n0 o0 : Int) : (zMo s n o s0 n0 o0 = 0 ∧ zTo s n o s0 n0 o0 = cmpZ s s0) ∨ (¬ zMo s n o s0 n0 o0 = 0 ∧ zTo s n o s0 n0 o0 = zMo s n o s0 n0 o0) := by
  by_cases h : zMo s n o s0 n0 o0 = 0
  · exact Or.inl ⟨h, if_pos h⟩
  · exact Or.inr ⟨h, if_neg h⟩
set_option maxHeartbeats 4000000 in
set_option maxRecDepth 20000 in
theorem z_X2_compared (tys : List (ClassId × FieldType)) (ws : va_W) (a b : Int) (ha : rL a) (hb : rL b)  : mCt tys yX2_compared cX2_compared 4 (some .int) ⟨0, 0, 0, 0⟩ [.long (lZ a), .long (lZ b)] ws (fun v ws' => v = some (.int (iZ (cmpZ a b))) ∧ ws' = ws) mNo := by
  refine mCt.of (by decide +kernel) (Nat.le_of_ble_eq_true rfl) (fun X hX hE => ?_)
  replace hX : mOK X RX2 cX2_compared 4 ⟨0, 0, 0, 0⟩ [] tys := hX
  refine r_lload_n hX dX2_compared_0 rfl rfl (r_lload_n hX dX2_compared_1 rfl rfl (r_lif_geZ (tgt := 10) hX dX2_compared_2 dX2_compared_3 (by decide) (by first | with_reducible assumption | decide | omega) (by first | with_reducible assumption | decide | omega) (fun c1 => ?_) (fun c1 => ?_)))
  · refine r_lload_n hX dX2_compared_10 rfl rfl (r_lload_n hX dX2_compared_11 rfl rfl (r_lif_leZ (tgt := 20) hX dX2_compared_12 dX2_compared_13 (by decide) (by first | with_reducible assumption | decide | omega) (by first | with_reducible assumption | decide | omega) (fun c2 => ?_) (fun c2 => ?_)))
    · refine r_iconstZ hX dX2_compared_20 (r_iret hX hE dX2_compared_21 (Nat.le_of_ble_eq_true rfl) (Nat.le_of_ble_eq_true rfl) ⟨zi ?_, rfl⟩)
      unfold cmpZ
      repeat' split
      all_goals omega
    · refine r_iconstZ hX dX2_compared_16 (r_goto (tgt := 21) hX dX2_compared_17 (by decide) (r_iret hX hE dX2_compared_21 (Nat.le_of_ble_eq_true rfl) (Nat.le_of_ble_eq_true rfl) ⟨zi ?_, rfl⟩))
      unfold cmpZ
      repeat' split
      all_goals omega
  · refine r_iconstZ hX dX2_compared_6 (r_goto (tgt := 21) hX dX2_compared_7 (by decide) (r_iret hX hE dX2_compared_21 (Nat.le_of_ble_eq_true rfl) (Nat.le_of_ble_eq_true rfl) ⟨zi ?_, rfl⟩))
    unfold cmpZ
    repeat' split
    all_goals omega
set_option maxHeartbeats 4000000 in
set_option maxRecDepth 20000 in
theorem z_X1_momentSecond (tys : List (ClassId × FieldType)) (ws : va_W) (qT aT : Nat) (sT nT oT : Int) (hT : ws[qT]? = some (aT, .inr (2, [.long (lZ sT), .int (iZ nT), .int (iZ oT)]))) (rT : ((-100000000000 ≤ sT ∧ sT ≤ 100000000000) ∧ (0 ≤ nT ∧ nT ≤ 999999999) ∧ (-64800 ≤ oT ∧ oT ≤ 64800)))  : mCt tys yX1_momentSecond cX1_momentSecond 1 (some .long) ⟨0, 0, 0, 0⟩ [.ref aT] ws (fun v ws' => v = some (.long (lZ (sT - oT))) ∧ ws' = ws) mNo := by
  refine mCt.of (by decide +kernel) (Nat.le_of_ble_eq_true rfl) (fun X hX hE => ?_)
  replace hX : mOK X RX1 cX1_momentSecond 1 ⟨0, 0, 0, 0⟩ [] tys := hX
  refine r_aload_n hX dX1_momentSecond_0 rfl rfl (r_get hX kf_X1_9 qT hT rfl dX1_momentSecond_1 (r_aload_n hX dX1_momentSecond_4 rfl rfl (r_get hX kf_X1_19 qT hT rfl dX1_momentSecond_5 (r_i2lZ hX dX1_momentSecond_8 (by first | with_reducible assumption | decide | omega) (r_lsubZ hX dX1_momentSecond_9 (r_lret hX hE dX1_momentSecond_10 (Nat.le_of_ble_eq_true rfl) (Nat.le_of_ble_eq_true rfl) ⟨zl ?_, rfl⟩))))))
  rfl
set_option maxHeartbeats 4000000 in
set_option maxRecDepth 20000 in
theorem z_X1_day (tys : List (ClassId × FieldType)) (ws : va_W) (qT aT : Nat) (sT nT oT : Int) (hT : ws[qT]? = some (aT, .inr (2, [.long (lZ sT), .int (iZ nT), .int (iZ oT)]))) (rT : ((-100000000000 ≤ sT ∧ sT ≤ 100000000000) ∧ (0 ≤ nT ∧ nT ≤ 999999999) ∧ (-64800 ≤ oT ∧ oT ≤ 64800)))  : mCt tys yX1_day cX1_day 1 (some .int) ⟨1, 0, 0, 25⟩ [.ref aT] ws (fun v ws' => v = some (.int (iZ (sT / 86400))) ∧ ws' = ws) mNo := by
  refine mCt.of (by decide +kernel) (Nat.le_of_ble_eq_true rfl) (fun X hX hE => ?_)
  replace hX : mOK X RX1 cX1_day 1 ⟨1, 0, 0, 25⟩ [] tys := hX
  refine r_aload_n hX dX1_day_0 rfl rfl (r_get hX kf_X1_9 qT hT rfl dX1_day_1 (r_ldc2Z (z := 86400) hX kc_X1_22 (by decide +kernel) dX1_day_4 (r_callS hX (z_J9_floorDiv _ _ _ _ (by first | with_reducible assumption | decide | omega) (by unfold zD; omega)) ks_X1_24 rfl rfl (Nat.le_of_ble_eq_true rfl) ⟨(Nat.le_of_ble_eq_true rfl), (Nat.le_of_ble_eq_true rfl)⟩ ⟨(Nat.le_of_ble_eq_true rfl), (Nat.le_of_ble_eq_true rfl)⟩ dX1_day_7 (fun _ _ z => False.elim z) (fun v9 ws9 h1 => ?_))))
  obtain ⟨rfl, hw9⟩ := h1
  subst ws9
  dsimp only [mPush]
  refine r_l2iZ hX dX1_day_10 (r_iret hX hE dX1_day_11 (Nat.le_of_ble_eq_true rfl) (Nat.le_of_ble_eq_true rfl) ⟨zi ?_, rfl⟩)
  rfl
set_option maxHeartbeats 4000000 in
set_option maxRecDepth 20000 in
theorem z_X1_beginOfDay (tys : List (ClassId × FieldType)) (ws : va_W) (qT aT : Nat) (sT nT oT : Int) (hT : ws[qT]? = some (aT, .inr (2, [.long (lZ sT), .int (iZ nT), .int (iZ oT)]))) (rT : ((-100000000000 ≤ sT ∧ sT ≤ 100000000000) ∧ (0 ≤ nT ∧ nT ≤ 999999999) ∧ (-64800 ≤ oT ∧ oT ≤ 64800)))  : mCt tys yX1_beginOfDay cX1_beginOfDay 1 (some .long) ⟨2, 0, 0, 45⟩ [.ref aT] ws (fun v ws' => v = some (.long (lZ (sT / 86400 * 86400))) ∧ ws' = ws) mNo := by
  refine mCt.of (by decide +kernel) (Nat.le_of_ble_eq_true rfl) (fun X hX hE => ?_)
  replace hX : mOK X RX1 cX1_beginOfDay 1 ⟨2, 0, 0, 45⟩ [] tys := hX
  refine r_aload_n hX dX1_beginOfDay_0 rfl rfl (r_callV hX (z_X1_day _ _ qT _ _ _ _ hT rT) kv_X1_30 qT hT rfl rfl rfl (Nat.le_of_ble_eq_true rfl) ⟨(Nat.le_of_ble_eq_true rfl), (Nat.le_of_ble_eq_true rfl)⟩ ⟨(Nat.le_of_ble_eq_true rfl), (Nat.le_of_ble_eq_true rfl)⟩ dX1_beginOfDay_1 (fun _ _ z => False.elim z) (fun v9 ws9 h1 => ?_))
  obtain ⟨rfl, hw9⟩ := h1
  subst ws9
  dsimp only [mPush]
  refine r_i2lZ hX dX1_beginOfDay_4 (by first | with_reducible assumption | decide | omega) (r_ldc2Z (z := 86400) hX kc_X1_22 (by decide +kernel) dX1_beginOfDay_5 (r_lmulZ hX dX1_beginOfDay_8 (r_lret hX hE dX1_beginOfDay_9 (Nat.le_of_ble_eq_true rfl) (Nat.le_of_ble_eq_true rfl) ⟨zl ?_, rfl⟩)))
  rfl
set_option maxHeartbeats 4000000 in
set_option maxRecDepth 20000 in
theorem z_X1_secondOfDay (tys : List (ClassId × FieldType)) (ws : va_W) (qT aT : Nat) (sT nT oT : Int) (hT : ws[qT]? = some (aT, .inr (2, [.long (lZ sT), .int (iZ nT), .int (iZ oT)]))) (rT : ((-100000000000 ≤ sT ∧ sT ≤ 100000000000) ∧ (0 ≤ nT ∧ nT ≤ 999999999) ∧ (-64800 ≤ oT ∧ oT ≤ 64800)))  : mCt tys yX1_secondOfDay cX1_secondOfDay 1 (some .int) ⟨1, 0, 0, 25⟩ [.ref aT] ws (fun v ws' => v = some (.int (iZ (sT % 86400))) ∧ ws' = ws) mNo := by
  refine mCt.of (by decide +kernel) (Nat.le_of_ble_eq_true rfl) (fun X hX hE => ?_)
  replace hX : mOK X RX1 cX1_secondOfDay 1 ⟨1, 0, 0, 25⟩ [] tys := hX
  refine r_aload_n hX dX1_secondOfDay_0 rfl rfl (r_get hX kf_X1_9 qT hT rfl dX1_secondOfDay_1 (r_ldc2Z (z := 86400) hX kc_X1_22 (by decide +kernel) dX1_secondOfDay_4 (r_callS hX (z_J9_floorMod _ _ _ _ (by first | with_reducible assumption | decide | omega) (by unfold zD; omega)) ks_X1_45 rfl rfl (Nat.le_of_ble_eq_true rfl) ⟨(Nat.le_of_ble_eq_true rfl), (Nat.le_of_ble_eq_true rfl)⟩ ⟨(Nat.le_of_ble_eq_true rfl), (Nat.le_of_ble_eq_true rfl)⟩ dX1_secondOfDay_7 (fun _ _ z => False.elim z) (fun v9 ws9 h1 => ?_))))
  obtain ⟨rfl, hw9⟩ := h1
  subst ws9
  dsimp only [mPush]
  refine r_l2iZ hX dX1_secondOfDay_10 (r_iret hX hE dX1_secondOfDay_11 (Nat.le_of_ble_eq_true rfl) (Nat.le_of_ble_eq_true rfl) ⟨zi ?_, rfl⟩)
  rfl
set_option maxHeartbeats 4000000 in
set_option maxRecDepth 20000 in
theorem z_X1_hour (tys : List (ClassId × FieldType)) (ws : va_W) (qT aT : Nat) (sT nT oT : Int) (hT : ws[qT]? = some (aT, .inr (2, [.long (lZ sT), .int (iZ nT), .int (iZ oT)]))) (rT : ((-100000000000 ≤ sT ∧ sT ≤ 100000000000) ∧ (0 ≤ nT ∧ nT ≤ 999999999) ∧ (-64800 ≤ oT ∧ oT ≤ 64800)))  : mCt tys yX1_hour cX1_hour 1 (some .int) ⟨2, 0, 0, 45⟩ [.ref aT] ws (fun v ws' => v = some (.int (iZ (sT % 86400 / 3600))) ∧ ws' = ws) mNo := by
  refine mCt.of (by decide +kernel) (Nat.le_of_ble_eq_true rfl) (fun X hX hE => ?_)
  replace hX : mOK X RX1 cX1_hour 1 ⟨2, 0, 0, 45⟩ [] tys := hX
  refine r_aload_n hX dX1_hour_0 rfl rfl (r_callV hX (z_X1_secondOfDay _ _ qT _ _ _ _ hT rT) kv_X1_48 qT hT rfl rfl rfl (Nat.le_of_ble_eq_true rfl) ⟨(Nat.le_of_ble_eq_true rfl), (Nat.le_of_ble_eq_true rfl)⟩ ⟨(Nat.le_of_ble_eq_true rfl), (Nat.le_of_ble_eq_true rfl)⟩ dX1_hour_1 (fun _ _ z => False.elim z) (fun v9 ws9 h1 => ?_))
  obtain ⟨rfl, hw9⟩ := h1
  subst ws9
  dsimp only [mPush]
  refine r_sipushZ hX dX1_hour_4 (by decide +kernel) (r_idivZ hX dX1_hour_7 (by first | with_reducible assumption | decide | omega) (by decide) (r_iret hX hE dX1_hour_8 (Nat.le_of_ble_eq_true rfl) (Nat.le_of_ble_eq_true rfl) ⟨zi ?_, rfl⟩))
  rfl
set_option maxHeartbeats 4000000 in
set_option maxRecDepth 20000 in
theorem z_X1_minute (tys : List (ClassId × FieldType)) (ws : va_W) (qT aT : Nat) (sT nT oT : Int) (hT : ws[qT]? = some (aT, .inr (2, [.long (lZ sT), .int (iZ nT), .int (iZ oT)]))) (rT : ((-100000000000 ≤ sT ∧ sT ≤ 100000000000) ∧ (0 ≤ nT ∧ nT ≤ 999999999) ∧ (-64800 ≤ oT ∧ oT ≤ 64800)))  : mCt tys yX1_minute cX1_minute 1 (some .int) ⟨2, 0, 0, 45⟩ [.ref aT] ws (fun v ws' => v = some (.int (iZ (sT % 86400 / 60 % 60))) ∧ ws' = ws) mNo := by
  refine mCt.of (by decide +kernel) (Nat.le_of_ble_eq_true rfl) (fun X hX hE => ?_)
  replace hX : mOK X RX1 cX1_minute 1 ⟨2, 0, 0, 45⟩ [] tys := hX
  refine r_aload_n hX dX1_minute_0 rfl rfl (r_callV hX (z_X1_secondOfDay _ _ qT _ _ _ _ hT rT) kv_X1_48 qT hT rfl rfl rfl (Nat.le_of_ble_eq_true rfl) ⟨(Nat.le_of_ble_eq_true rfl), (Nat.le_of_ble_eq_true rfl)⟩ ⟨(Nat.le_of_ble_eq_true rfl), (Nat.le_of_ble_eq_true rfl)⟩ dX1_minute_1 (fun _ _ z => False.elim z) (fun v9 ws9 h1 => ?_))
  obtain ⟨rfl, hw9⟩ := h1
  subst ws9
  dsimp only [mPush]
  refine r_bipushZ hX dX1_minute_4 (by decide +kernel) (r_idivZ hX dX1_minute_6 (by first | with_reducible assumption | decide | omega) (by decide) (r_bipushZ hX dX1_minute_7 (by decide +kernel) (r_iremZ hX dX1_minute_9 (by first | with_reducible assumption | decide | omega) (by decide) (r_iret hX hE dX1_minute_10 (Nat.le_of_ble_eq_true rfl) (Nat.le_of_ble_eq_true rfl) ⟨zi ?_, rfl⟩))))
  rfl
set_option maxHeartbeats 4000000 in
set_option maxRecDepth 20000 in
theorem z_X1_secondOfMinute (tys : List (ClassId × FieldType)) (ws : va_W) (qT aT : Nat) (sT nT oT : Int) (hT : ws[qT]? = some (aT, .inr (2, [.long (lZ sT), .int (iZ nT), .int (iZ oT)]))) (rT : ((-100000000000 ≤ sT ∧ sT ≤ 100000000000) ∧ (0 ≤ nT ∧ nT ≤ 999999999) ∧ (-64800 ≤ oT ∧ oT ≤ 64800)))  : mCt tys yX1_secondOfMinute cX1_secondOfMinute 1 (some .int) ⟨2, 0, 0, 45⟩ [.ref aT] ws (fun v ws' => v = some (.int (iZ (sT % 86400 % 60))) ∧ ws' = ws) mNo := by
  refine mCt.of (by decide +kernel) (Nat.le_of_ble_eq_true rfl) (fun X hX hE => ?_)
  replace hX : mOK X RX1 cX1_secondOfMinute 1 ⟨2, 0, 0, 45⟩ [] tys := hX
  refine r_aload_n hX dX1_secondOfMinute_0 rfl rfl (r_callV hX (z_X1_secondOfDay _ _ qT _ _ _ _ hT rT) kv_X1_48 qT hT rfl rfl rfl (Nat.le_of_ble_eq_true rfl) ⟨(Nat.le_of_ble_eq_true rfl), (Nat.le_of_ble_eq_true rfl)⟩ ⟨(Nat.le_of_ble_eq_true rfl), (Nat.le_of_ble_eq_true rfl)⟩ dX1_secondOfMinute_1 (fun _ _ z => False.elim z) (fun v9 ws9 h1 => ?_))
  obtain ⟨rfl, hw9⟩ := h1
  subst ws9
  dsimp only [mPush]
  refine r_bipushZ hX dX1_secondOfMinute_4 (by decide +kernel) (r_iremZ hX dX1_secondOfMinute_6 (by first | with_reducible assumption | decide | omega) (by decide) (r_iret hX hE dX1_secondOfMinute_7 (Nat.le_of_ble_eq_true rfl) (Nat.le_of_ble_eq_true rfl) ⟨zi ?_, rfl⟩))
  rfl
set_option maxHeartbeats 4000000 in
set_option maxRecDepth 20000 in
theorem z_X1_months (tys : List (ClassId × FieldType)) (ws : va_W) (qT aT : Nat) (sT nT oT : Int) (hT : ws[qT]? = some (aT, .inr (2, [.long (lZ sT), .int (iZ nT), .int (iZ oT)]))) (rT : ((-100000000000 ≤ sT ∧ sT ≤ 100000000000) ∧ (0 ≤ nT ∧ nT ≤ 999999999) ∧ (-64800 ≤ oT ∧ oT ≤ 64800))) (hd : -21915 ≤ sT / 86400 ∧ sT / 86400 ≤ 22279)  : mCt tys yX1_months cX1_months 1 (some .long) ⟨3, 0, 0, 65⟩ [.ref aT] ws (fun v ws' => v = some (.long (lZ ((YR (sT / 86400) : Nat) * 12 + (MO (sT / 86400) : Nat) - 1))) ∧ ws' = ws) mNo := by
  refine mCt.of (by decide +kernel) (Nat.le_of_ble_eq_true rfl) (fun X hX hE => ?_)
  replace hX : mOK X RX1 cX1_months 1 ⟨3, 0, 0, 65⟩ [] tys := hX
  have hy := YR_spec hd.1 hd.2
  have hm := MO_b (sT / 86400)
  refine r_aload_n hX dX1_months_0 rfl rfl (r_callV hX (z_X1_day _ _ qT _ _ _ _ hT rT) kv_X1_30 qT hT rfl rfl rfl (Nat.le_of_ble_eq_true rfl) ⟨(Nat.le_of_ble_eq_true rfl), (Nat.le_of_ble_eq_true rfl)⟩ ⟨(Nat.le_of_ble_eq_true rfl), (Nat.le_of_ble_eq_true rfl)⟩ dX1_months_1 (fun _ _ z => False.elim z) (fun v9 ws9 h1 => ?_))
  obtain ⟨rfl, hw9⟩ := h1
  subst ws9
  dsimp only [mPush]
  refine r_callS hX (z_X0_yearOf _ _ _ (by first | with_reducible assumption | decide | omega)) ks_X1_34 rfl rfl (Nat.le_of_ble_eq_true rfl) ⟨(Nat.le_of_ble_eq_true rfl), (Nat.le_of_ble_eq_true rfl)⟩ ⟨(Nat.le_of_ble_eq_true rfl), (Nat.le_of_ble_eq_true rfl)⟩ dX1_months_4 (fun _ _ z => False.elim z) (fun v9 ws9 h2 => ?_)
  obtain ⟨rfl, hw9⟩ := h2
  subst ws9
  dsimp only [mPush]
  refine r_i2lZ hX dX1_months_7 (by first | with_reducible assumption | decide | omega) (r_ldc2Z (z := 12) hX kc_X1_40 (by decide +kernel) dX1_months_8 (r_lmulZ hX dX1_months_11 (r_aload_n hX dX1_months_12 rfl rfl (r_callV hX (z_X1_day _ _ qT _ _ _ _ hT rT) kv_X1_30 qT hT rfl rfl rfl (Nat.le_of_ble_eq_true rfl) ⟨(Nat.le_of_ble_eq_true rfl), (Nat.le_of_ble_eq_true rfl)⟩ ⟨(Nat.le_of_ble_eq_true rfl), (Nat.le_of_ble_eq_true rfl)⟩ dX1_months_13 (fun _ _ z => False.elim z) (fun v9 ws9 h3 => ?_)))))
  obtain ⟨rfl, hw9⟩ := h3
  subst ws9
  dsimp only [mPush]
  refine r_callS hX (z_X0_monthOf _ _ _ (by first | with_reducible assumption | decide | omega)) ks_X1_42 rfl rfl (Nat.le_of_ble_eq_true rfl) ⟨(Nat.le_of_ble_eq_true rfl), (Nat.le_of_ble_eq_true rfl)⟩ ⟨(Nat.le_of_ble_eq_true rfl), (Nat.le_of_ble_eq_true rfl)⟩ dX1_months_16 (fun _ _ z => False.elim z) (fun v9 ws9 h4 => ?_)
  obtain ⟨rfl, hw9⟩ := h4
  subst ws9
  dsimp only [mPush]
  refine r_i2lZ hX dX1_months_19 (by first | with_reducible assumption | decide | omega) (r_laddZ hX dX1_months_20 (r_lconstZ (v := 1) hX dX1_months_21 rfl (r_lsubZ hX dX1_months_22 (r_lret hX hE dX1_months_23 (Nat.le_of_ble_eq_true rfl) (Nat.le_of_ble_eq_true rfl) ⟨zl ?_, rfl⟩))))
  rfl
set_option maxHeartbeats 4000000 in
set_option maxRecDepth 20000 in
theorem z_X1_momentOrder (tys : List (ClassId × FieldType)) (ws : va_W) (qT aT : Nat) (sT nT oT : Int) (hT : ws[qT]? = some (aT, .inr (2, [.long (lZ sT), .int (iZ nT), .int (iZ oT)]))) (rT : ((-100000000000 ≤ sT ∧ sT ≤ 100000000000) ∧ (0 ≤ nT ∧ nT ≤ 999999999) ∧ (-64800 ≤ oT ∧ oT ≤ 64800))) (q0 a0 : Nat) (s0 n0 o0 : Int) (h0 : ws[q0]? = some (a0, .inr (2, [.long (lZ s0), .int (iZ n0), .int (iZ o0)]))) (r0 : ((-100000000000 ≤ s0 ∧ s0 ≤ 100000000000) ∧ (0 ≤ n0 ∧ n0 ≤ 999999999) ∧ (-64800 ≤ o0 ∧ o0 ≤ 64800)))  : mCt tys yX1_momentOrder cX1_momentOrder 3 (some .int) ⟨1, 0, 0, 23⟩ [.ref aT, .ref a0] ws (fun v ws' => v = some (.int (iZ (zMo sT nT oT s0 n0 o0))) ∧ ws' = ws) mNo := by
  refine mCt.of (by decide +kernel) (Nat.le_of_ble_eq_true rfl) (fun X hX hE => ?_)
  replace hX : mOK X RX1 cX1_momentOrder 3 ⟨1, 0, 0, 23⟩ [] tys := hX
  refine r_aload_n hX dX1_momentOrder_0 rfl rfl (r_callV hX (z_X1_momentSecond _ _ qT _ _ _ _ hT rT) kv_X1_55 qT hT rfl rfl rfl (Nat.le_of_ble_eq_true rfl) ⟨(Nat.le_of_ble_eq_true rfl), (Nat.le_of_ble_eq_true rfl)⟩ ⟨(Nat.le_of_ble_eq_true rfl), (Nat.le_of_ble_eq_true rfl)⟩ dX1_momentOrder_1 (fun _ _ z => False.elim z) (fun v9 ws9 h1 => ?_))
  obtain ⟨rfl, hw9⟩ := h1
  subst ws9
  dsimp only [mPush]
  refine r_aload_n hX dX1_momentOrder_4 rfl rfl (r_callV hX (z_X1_momentSecond _ _ q0 _ _ _ _ h0 r0) kv_X1_55 q0 h0 rfl rfl rfl (Nat.le_of_ble_eq_true rfl) ⟨(Nat.le_of_ble_eq_true rfl), (Nat.le_of_ble_eq_true rfl)⟩ ⟨(Nat.le_of_ble_eq_true rfl), (Nat.le_of_ble_eq_true rfl)⟩ dX1_momentOrder_5 (fun _ _ z => False.elim z) (fun v9 ws9 h2 => ?_))
  obtain ⟨rfl, hw9⟩ := h2
  subst ws9
  dsimp only [mPush]
  refine r_callN hX (z_X2_compared _ _ _ _ (by first | with_reducible assumption | decide | omega) (by first | with_reducible assumption | decide | omega)) kn_X1_59 rfl rfl (Nat.le_of_ble_eq_true rfl) ⟨(Nat.le_of_ble_eq_true rfl), (Nat.le_of_ble_eq_true rfl)⟩ ⟨(Nat.le_of_ble_eq_true rfl), (Nat.le_of_ble_eq_true rfl)⟩ dX1_momentOrder_8 (fun _ _ z => False.elim z) (fun v9 ws9 h3 => ?_)
  obtain ⟨rfl, hw9⟩ := h3
  subst ws9
  dsimp only [mPush]
  have hcm3 := cmpZ_b (sT - oT) (s0 - o0)
  refine r_istore_n hX dX1_momentOrder_11 rfl (by decide) rfl (r_iload_n hX dX1_momentOrder_12 rfl rfl (r_if_eqZ (tgt := 20) hX dX1_momentOrder_13 (by decide) (by first | with_reducible assumption | decide | omega) (fun c4 => ?_) (fun c4 => ?_)))
  · refine r_aload_n hX dX1_momentOrder_20 rfl rfl (r_get hX kf_X1_15 qT hT rfl dX1_momentOrder_21 (r_i2lZ hX dX1_momentOrder_24 (by first | with_reducible assumption | decide | omega) (r_aload_n hX dX1_momentOrder_25 rfl rfl (r_get hX kf_X1_15 q0 h0 rfl dX1_momentOrder_26 (r_i2lZ hX dX1_momentOrder_29 (by first | with_reducible assumption | decide | omega) (r_callN hX (z_X2_compared _ _ _ _ (by first | with_reducible assumption | decide | omega) (by first | with_reducible assumption | decide | omega)) kn_X1_59 rfl rfl (Nat.le_of_ble_eq_true rfl) ⟨(Nat.le_of_ble_eq_true rfl), (Nat.le_of_ble_eq_true rfl)⟩ ⟨(Nat.le_of_ble_eq_true rfl), (Nat.le_of_ble_eq_true rfl)⟩ dX1_momentOrder_30 (fun _ _ z => False.elim z) (fun v9 ws9 h5 => ?_)))))))
    obtain ⟨rfl, hw9⟩ := h5
    subst ws9
    dsimp only [mPush]
    have hcm5 := cmpZ_b nT n0
    refine r_iret hX hE dX1_momentOrder_33 (Nat.le_of_ble_eq_true rfl) (Nat.le_of_ble_eq_true rfl) ⟨zi ?_, rfl⟩
    unfold zMo
    first | exact (if_pos (by omega)).symm | exact (if_neg (by omega)).symm | exact (if_pos (by assumption)).symm | exact (if_neg (by assumption)).symm
  · refine r_iload_n hX dX1_momentOrder_16 rfl rfl (r_goto (tgt := 33) hX dX1_momentOrder_17 (by decide) (r_iret hX hE dX1_momentOrder_33 (Nat.le_of_ble_eq_true rfl) (Nat.le_of_ble_eq_true rfl) ⟨zi ?_, rfl⟩))
    unfold zMo
    first | exact (if_pos (by omega)).symm | exact (if_neg (by omega)).symm | exact (if_pos (by assumption)).symm | exact (if_neg (by assumption)).symm
set_option maxHeartbeats 4000000 in
set_option maxRecDepth 20000 in
theorem z_X1_isAhead (tys : List (ClassId × FieldType)) (ws : va_W) (qT aT : Nat) (sT nT oT : Int) (hT : ws[qT]? = some (aT, .inr (2, [.long (lZ sT), .int (iZ nT), .int (iZ oT)]))) (rT : ((-100000000000 ≤ sT ∧ sT ≤ 100000000000) ∧ (0 ≤ nT ∧ nT ≤ 999999999) ∧ (-64800 ≤ oT ∧ oT ≤ 64800))) (q0 a0 : Nat) (s0 n0 o0 : Int) (h0 : ws[q0]? = some (a0, .inr (2, [.long (lZ s0), .int (iZ n0), .int (iZ o0)]))) (r0 : ((-100000000000 ≤ s0 ∧ s0 ≤ 100000000000) ∧ (0 ≤ n0 ∧ n0 ≤ 999999999) ∧ (-64800 ≤ o0 ∧ o0 ≤ 64800)))  : mCt tys yX1_isAhead cX1_isAhead 2 (some .boolean) ⟨2, 0, 0, 45⟩ [.ref aT, .ref a0] ws (fun v ws' => v = some (.int (b2i (decide (zMo sT nT oT s0 n0 o0 < 0)))) ∧ ws' = ws) mNo := by
  refine mCt.of (by decide +kernel) (Nat.le_of_ble_eq_true rfl) (fun X hX hE => ?_)
  replace hX : mOK X RX1 cX1_isAhead 2 ⟨2, 0, 0, 45⟩ [] tys := hX
  refine r_aload_n hX dX1_isAhead_0 rfl rfl (r_aload_n hX dX1_isAhead_1 rfl rfl (r_callV hX (z_X1_momentOrder _ _ qT _ _ _ _ hT rT q0 _ _ _ _ h0 r0) kv_X1_51 qT hT rfl rfl rfl (Nat.le_of_ble_eq_true rfl) ⟨(Nat.le_of_ble_eq_true rfl), (Nat.le_of_ble_eq_true rfl)⟩ ⟨(Nat.le_of_ble_eq_true rfl), (Nat.le_of_ble_eq_true rfl)⟩ dX1_isAhead_2 (fun _ _ z => False.elim z) (fun v9 ws9 h1 => ?_)))
  obtain ⟨rfl, hw9⟩ := h1
  subst ws9
  dsimp only [mPush]
  have hb1 := zMo_b sT nT oT s0 n0 o0
  refine r_if_geZ (tgt := 12) hX dX1_isAhead_5 (by decide) (by first | with_reducible assumption | decide | omega) (fun c2 => ?_) (fun c2 => ?_)
  · refine r_iconstZ hX dX1_isAhead_12 (r_zret hX hE dX1_isAhead_13 (by decide) (Nat.le_of_ble_eq_true rfl) (Nat.le_of_ble_eq_true rfl) ⟨zb0 ?_, rfl⟩)
    exact decide_eq_false (by omega)
  · refine r_iconstZ hX dX1_isAhead_8 (r_goto (tgt := 13) hX dX1_isAhead_9 (by decide) (r_zret hX hE dX1_isAhead_13 (by decide) (Nat.le_of_ble_eq_true rfl) (Nat.le_of_ble_eq_true rfl) ⟨zb1 ?_, rfl⟩))
    exact decide_eq_true (by omega)
set_option maxHeartbeats 4000000 in
set_option maxRecDepth 20000 in
theorem z_X1_isAlike (tys : List (ClassId × FieldType)) (ws : va_W) (qT aT : Nat) (sT nT oT : Int) (hT : ws[qT]? = some (aT, .inr (2, [.long (lZ sT), .int (iZ nT), .int (iZ oT)]))) (rT : ((-100000000000 ≤ sT ∧ sT ≤ 100000000000) ∧ (0 ≤ nT ∧ nT ≤ 999999999) ∧ (-64800 ≤ oT ∧ oT ≤ 64800))) (q0 a0 : Nat) (s0 n0 o0 : Int) (h0 : ws[q0]? = some (a0, .inr (2, [.long (lZ s0), .int (iZ n0), .int (iZ o0)]))) (r0 : ((-100000000000 ≤ s0 ∧ s0 ≤ 100000000000) ∧ (0 ≤ n0 ∧ n0 ≤ 999999999) ∧ (-64800 ≤ o0 ∧ o0 ≤ 64800)))  : mCt tys yX1_isAlike cX1_isAlike 2 (some .boolean) ⟨1, 0, 0, 20⟩ [.ref aT, .ref a0] ws (fun v ws' => v = some (.int (b2i (decide (sT - oT = s0 - o0 ∧ nT = n0)))) ∧ ws' = ws) mNo := by
  refine mCt.of (by decide +kernel) (Nat.le_of_ble_eq_true rfl) (fun X hX hE => ?_)
  replace hX : mOK X RX1 cX1_isAlike 2 ⟨1, 0, 0, 20⟩ [] tys := hX
  refine r_aload_n hX dX1_isAlike_0 rfl rfl (r_callV hX (z_X1_momentSecond _ _ qT _ _ _ _ hT rT) kv_X1_55 qT hT rfl rfl rfl (Nat.le_of_ble_eq_true rfl) ⟨(Nat.le_of_ble_eq_true rfl), (Nat.le_of_ble_eq_true rfl)⟩ ⟨(Nat.le_of_ble_eq_true rfl), (Nat.le_of_ble_eq_true rfl)⟩ dX1_isAlike_1 (fun _ _ z => False.elim z) (fun v9 ws9 h1 => ?_))
  obtain ⟨rfl, hw9⟩ := h1
  subst ws9
  dsimp only [mPush]
  refine r_aload_n hX dX1_isAlike_4 rfl rfl (r_callV hX (z_X1_momentSecond _ _ q0 _ _ _ _ h0 r0) kv_X1_55 q0 h0 rfl rfl rfl (Nat.le_of_ble_eq_true rfl) ⟨(Nat.le_of_ble_eq_true rfl), (Nat.le_of_ble_eq_true rfl)⟩ ⟨(Nat.le_of_ble_eq_true rfl), (Nat.le_of_ble_eq_true rfl)⟩ dX1_isAlike_5 (fun _ _ z => False.elim z) (fun v9 ws9 h2 => ?_))
  obtain ⟨rfl, hw9⟩ := h2
  subst ws9
  dsimp only [mPush]
  refine r_lif_neZ (tgt := 27) hX dX1_isAlike_8 dX1_isAlike_9 (by decide) (by first | with_reducible assumption | decide | omega) (by first | with_reducible assumption | decide | omega) (fun c3 => ?_) (fun c3 => ?_)
  · refine r_iconstZ hX dX1_isAlike_27 (r_zret hX hE dX1_isAlike_28 (by decide) (Nat.le_of_ble_eq_true rfl) (Nat.le_of_ble_eq_true rfl) ⟨zb0 ?_, rfl⟩)
    exact decide_eq_false (by omega)
  · refine r_aload_n hX dX1_isAlike_12 rfl rfl (r_get hX kf_X1_15 qT hT rfl dX1_isAlike_13 (r_aload_n hX dX1_isAlike_16 rfl rfl (r_get hX kf_X1_15 q0 h0 rfl dX1_isAlike_17 (r_icmp_neZ (tgt := 27) hX dX1_isAlike_20 (by decide) (by first | with_reducible assumption | decide | omega) (by first | with_reducible assumption | decide | omega) (fun c4 => ?_) (fun c4 => ?_)))))
    · refine r_iconstZ hX dX1_isAlike_27 (r_zret hX hE dX1_isAlike_28 (by decide) (Nat.le_of_ble_eq_true rfl) (Nat.le_of_ble_eq_true rfl) ⟨zb0 ?_, rfl⟩)
      exact decide_eq_false (by omega)
    · refine r_iconstZ hX dX1_isAlike_23 (r_goto (tgt := 28) hX dX1_isAlike_24 (by decide) (r_zret hX hE dX1_isAlike_28 (by decide) (Nat.le_of_ble_eq_true rfl) (Nat.le_of_ble_eq_true rfl) ⟨zb1 ?_, rfl⟩))
      exact decide_eq_true (by omega)
set_option maxHeartbeats 4000000 in
set_option maxRecDepth 20000 in
theorem z_X1_isSame (tys : List (ClassId × FieldType)) (ws : va_W) (qT aT : Nat) (sT nT oT : Int) (hT : ws[qT]? = some (aT, .inr (2, [.long (lZ sT), .int (iZ nT), .int (iZ oT)]))) (rT : ((-100000000000 ≤ sT ∧ sT ≤ 100000000000) ∧ (0 ≤ nT ∧ nT ≤ 999999999) ∧ (-64800 ≤ oT ∧ oT ≤ 64800))) (q0 a0 : Nat) (s0 n0 o0 : Int) (h0 : ws[q0]? = some (a0, .inr (2, [.long (lZ s0), .int (iZ n0), .int (iZ o0)]))) (r0 : ((-100000000000 ≤ s0 ∧ s0 ≤ 100000000000) ∧ (0 ≤ n0 ∧ n0 ≤ 999999999) ∧ (-64800 ≤ o0 ∧ o0 ≤ 64800)))  : mCt tys yX1_isSame cX1_isSame 2 (some .boolean) ⟨0, 0, 0, 0⟩ [.ref aT, .ref a0] ws (fun v ws' => v = some (.int (b2i (decide (sT = s0 ∧ nT = n0 ∧ oT = o0)))) ∧ ws' = ws) mNo := by
  refine mCt.of (by decide +kernel) (Nat.le_of_ble_eq_true rfl) (fun X hX hE => ?_)
  replace hX : mOK X RX1 cX1_isSame 2 ⟨0, 0, 0, 0⟩ [] tys := hX
  refine r_aload_n hX dX1_isSame_0 rfl rfl (r_get hX kf_X1_9 qT hT rfl dX1_isSame_1 (r_aload_n hX dX1_isSame_4 rfl rfl (r_get hX kf_X1_9 q0 h0 rfl dX1_isSame_5 (r_lif_neZ (tgt := 38) hX dX1_isSame_8 dX1_isSame_9 (by decide) (by first | with_reducible assumption | decide | omega) (by first | with_reducible assumption | decide | omega) (fun c1 => ?_) (fun c1 => ?_)))))
  · refine r_iconstZ hX dX1_isSame_38 (r_zret hX hE dX1_isSame_39 (by decide) (Nat.le_of_ble_eq_true rfl) (Nat.le_of_ble_eq_true rfl) ⟨zb0 ?_, rfl⟩)
    exact decide_eq_false (by omega)
  · refine r_aload_n hX dX1_isSame_12 rfl rfl (r_get hX kf_X1_15 qT hT rfl dX1_isSame_13 (r_aload_n hX dX1_isSame_16 rfl rfl (r_get hX kf_X1_15 q0 h0 rfl dX1_isSame_17 (r_icmp_neZ (tgt := 38) hX dX1_isSame_20 (by decide) (by first | with_reducible assumption | decide | omega) (by first | with_reducible assumption | decide | omega) (fun c2 => ?_) (fun c2 => ?_)))))
    · refine r_iconstZ hX dX1_isSame_38 (r_zret hX hE dX1_isSame_39 (by decide) (Nat.le_of_ble_eq_true rfl) (Nat.le_of_ble_eq_true rfl) ⟨zb0 ?_, rfl⟩)
      exact decide_eq_false (by omega)
    · refine r_aload_n hX dX1_isSame_23 rfl rfl (r_get hX kf_X1_19 qT hT rfl dX1_isSame_24 (r_aload_n hX dX1_isSame_27 rfl rfl (r_get hX kf_X1_19 q0 h0 rfl dX1_isSame_28 (r_icmp_neZ (tgt := 38) hX dX1_isSame_31 (by decide) (by first | with_reducible assumption | decide | omega) (by first | with_reducible assumption | decide | omega) (fun c3 => ?_) (fun c3 => ?_)))))
      · refine r_iconstZ hX dX1_isSame_38 (r_zret hX hE dX1_isSame_39 (by decide) (Nat.le_of_ble_eq_true rfl) (Nat.le_of_ble_eq_true rfl) ⟨zb0 ?_, rfl⟩)
        exact decide_eq_false (by omega)
      · refine r_iconstZ hX dX1_isSame_34 (r_goto (tgt := 39) hX dX1_isSame_35 (by decide) (r_zret hX hE dX1_isSame_39 (by decide) (Nat.le_of_ble_eq_true rfl) (Nat.le_of_ble_eq_true rfl) ⟨zb1 ?_, rfl⟩))
        exact decide_eq_true (by omega)
set_option maxHeartbeats 4000000 in
set_option maxRecDepth 20000 in
theorem z_X1_orderTo (tys : List (ClassId × FieldType)) (ws : va_W) (qT aT : Nat) (sT nT oT : Int) (hT : ws[qT]? = some (aT, .inr (2, [.long (lZ sT), .int (iZ nT), .int (iZ oT)]))) (rT : ((-100000000000 ≤ sT ∧ sT ≤ 100000000000) ∧ (0 ≤ nT ∧ nT ≤ 999999999) ∧ (-64800 ≤ oT ∧ oT ≤ 64800))) (q0 a0 : Nat) (s0 n0 o0 : Int) (h0 : ws[q0]? = some (a0, .inr (2, [.long (lZ s0), .int (iZ n0), .int (iZ o0)]))) (r0 : ((-100000000000 ≤ s0 ∧ s0 ≤ 100000000000) ∧ (0 ≤ n0 ∧ n0 ≤ 999999999) ∧ (-64800 ≤ o0 ∧ o0 ≤ 64800)))  : mCt tys yX1_orderTo cX1_orderTo 3 (some .int) ⟨2, 0, 0, 45⟩ [.ref aT, .ref a0] ws (fun v ws' => v = some (.int (iZ (zTo sT nT oT s0 n0 o0))) ∧ ws' = ws) mNo := by
  refine mCt.of (by decide +kernel) (Nat.le_of_ble_eq_true rfl) (fun X hX hE => ?_)
  replace hX : mOK X RX1 cX1_orderTo 3 ⟨2, 0, 0, 45⟩ [] tys := hX
  refine r_aload_n hX dX1_orderTo_0 rfl rfl (r_aload_n hX dX1_orderTo_1 rfl rfl (r_callV hX (z_X1_momentOrder _ _ qT _ _ _ _ hT rT q0 _ _ _ _ h0 r0) kv_X1_51 qT hT rfl rfl rfl (Nat.le_of_ble_eq_true rfl) ⟨(Nat.le_of_ble_eq_true rfl), (Nat.le_of_ble_eq_true rfl)⟩ ⟨(Nat.le_of_ble_eq_true rfl), (Nat.le_of_ble_eq_true rfl)⟩ dX1_orderTo_2 (fun _ _ z => False.elim z) (fun v9 ws9 h1 => ?_)))
  obtain ⟨rfl, hw9⟩ := h1
  subst ws9
  dsimp only [mPush]
  have hb1 := zMo_b sT nT oT s0 n0 o0
  refine r_istore_n hX dX1_orderTo_5 rfl (by decide) rfl (r_iload_n hX dX1_orderTo_6 rfl rfl (r_if_eqZ (tgt := 14) hX dX1_orderTo_7 (by decide) (by first | with_reducible assumption | decide | omega) (fun c2 => ?_) (fun c2 => ?_)))
  · refine r_aload_n hX dX1_orderTo_14 rfl rfl (r_get hX kf_X1_9 qT hT rfl dX1_orderTo_15 (r_aload_n hX dX1_orderTo_18 rfl rfl (r_get hX kf_X1_9 q0 h0 rfl dX1_orderTo_19 (r_callN hX (z_X2_compared _ _ _ _ (by first | with_reducible assumption | decide | omega) (by first | with_reducible assumption | decide | omega)) kn_X1_59 rfl rfl (Nat.le_of_ble_eq_true rfl) ⟨(Nat.le_of_ble_eq_true rfl), (Nat.le_of_ble_eq_true rfl)⟩ ⟨(Nat.le_of_ble_eq_true rfl), (Nat.le_of_ble_eq_true rfl)⟩ dX1_orderTo_22 (fun _ _ z => False.elim z) (fun v9 ws9 h3 => ?_)))))
    obtain ⟨rfl, hw9⟩ := h3
    subst ws9
    dsimp only [mPush]
    have hcm3 := cmpZ_b sT s0
    refine r_iret hX hE dX1_orderTo_25 (Nat.le_of_ble_eq_true rfl) (Nat.le_of_ble_eq_true rfl) ⟨zi ?_, rfl⟩
    unfold zTo
    first | exact (if_pos (by omega)).symm | exact (if_neg (by omega)).symm | exact (if_pos (by assumption)).symm | exact (if_neg (by assumption)).symm
  · refine r_iload_n hX dX1_orderTo_10 rfl rfl (r_goto (tgt := 25) hX dX1_orderTo_11 (by decide) (r_iret hX hE dX1_orderTo_25 (Nat.le_of_ble_eq_true rfl) (Nat.le_of_ble_eq_true rfl) ⟨zi ?_, rfl⟩))
    unfold zTo
    first | exact (if_pos (by omega)).symm | exact (if_neg (by omega)).symm | exact (if_pos (by assumption)).symm | exact (if_neg (by assumption)).symm
set_option maxHeartbeats 4000000 in
set_option maxRecDepth 20000 in
theorem z_X2_numberOf (tys : List (ClassId × FieldType)) (ws : va_W) (qT aT : Nat) (sT nT oT : Int) (hT : ws[qT]? = some (aT, .inr (2, [.long (lZ sT), .int (iZ nT), .int (iZ oT)]))) (rT : ((-100000000000 ≤ sT ∧ sT ≤ 100000000000) ∧ (0 ≤ nT ∧ nT ≤ 999999999) ∧ (-64800 ≤ oT ∧ oT ≤ 64800)))  : mCt tys yX2_numberOf cX2_numberOf 1 (some .long) ⟨1, 0, 0, 20⟩ [.ref aT] ws (fun v ws' => v = some (.long (lZ ((sT - oT) * 1000000000 + nT))) ∧ ws' = ws) mNo := by
  refine mCt.of (by decide +kernel) (Nat.le_of_ble_eq_true rfl) (fun X hX hE => ?_)
  replace hX : mOK X RX2 cX2_numberOf 1 ⟨1, 0, 0, 20⟩ [] tys := hX
  refine r_aload_n hX dX2_numberOf_0 rfl rfl (r_callV hX (z_X1_momentSecond _ _ qT _ _ _ _ hT rT) kv_X2_169 qT hT rfl rfl rfl (Nat.le_of_ble_eq_true rfl) ⟨(Nat.le_of_ble_eq_true rfl), (Nat.le_of_ble_eq_true rfl)⟩ ⟨(Nat.le_of_ble_eq_true rfl), (Nat.le_of_ble_eq_true rfl)⟩ dX2_numberOf_1 (fun _ _ z => False.elim z) (fun v9 ws9 h1 => ?_))
  obtain ⟨rfl, hw9⟩ := h1
  subst ws9
  dsimp only [mPush]
  refine r_ldc2Z (z := 1000000000) hX kc_X2_72 (by decide +kernel) dX2_numberOf_4 (r_lmulZ hX dX2_numberOf_7 (r_aload_n hX dX2_numberOf_8 rfl rfl (r_getN hX kg_X2_172 qT hT rfl dX2_numberOf_9 (r_i2lZ hX dX2_numberOf_12 (by first | with_reducible assumption | decide | omega) (r_laddZ hX dX2_numberOf_13 (r_lret hX hE dX2_numberOf_14 (Nat.le_of_ble_eq_true rfl) (Nat.le_of_ble_eq_true rfl) ⟨zl ?_, rfl⟩))))))
  rfl
set_option maxHeartbeats 4000000 in
set_option maxRecDepth 20000 in
theorem z_X2_secondOf (tys : List (ClassId × FieldType)) (ws : va_W) (a : Int) (ha : -9000000000000000000 ≤ a ∧ a ≤ 9000000000000000000)  : mCt tys yX2_secondOf cX2_secondOf 2 (some .long) ⟨1, 0, 0, 25⟩ [.long (lZ a)] ws (fun v ws' => v = some (.long (lZ (a / 1000000000))) ∧ ws' = ws) mNo := by
  refine mCt.of (by decide +kernel) (Nat.le_of_ble_eq_true rfl) (fun X hX hE => ?_)
  replace hX : mOK X RX2 cX2_secondOf 2 ⟨1, 0, 0, 25⟩ [] tys := hX
  refine r_lload_n hX dX2_secondOf_0 rfl rfl (r_ldc2Z (z := 1000000000) hX kc_X2_72 (by decide +kernel) dX2_secondOf_1 (r_callS hX (z_J9_floorDiv _ _ _ _ (by first | with_reducible assumption | decide | omega) (by unfold zD; omega)) ks_X2_100 rfl rfl (Nat.le_of_ble_eq_true rfl) ⟨(Nat.le_of_ble_eq_true rfl), (Nat.le_of_ble_eq_true rfl)⟩ ⟨(Nat.le_of_ble_eq_true rfl), (Nat.le_of_ble_eq_true rfl)⟩ dX2_secondOf_4 (fun _ _ z => False.elim z) (fun v9 ws9 h1 => ?_)))
  obtain ⟨rfl, hw9⟩ := h1
  subst ws9
  dsimp only [mPush]
  refine r_lret hX hE dX2_secondOf_7 (Nat.le_of_ble_eq_true rfl) (Nat.le_of_ble_eq_true rfl) ⟨zl ?_, rfl⟩
  rfl
set_option maxHeartbeats 4000000 in
set_option maxRecDepth 20000 in
theorem z_X2_nanoOf (tys : List (ClassId × FieldType)) (ws : va_W) (a : Int) (ha : -9000000000000000000 ≤ a ∧ a ≤ 9000000000000000000)  : mCt tys yX2_nanoOf cX2_nanoOf 2 (some .int) ⟨1, 0, 0, 25⟩ [.long (lZ a)] ws (fun v ws' => v = some (.int (iZ (a % 1000000000))) ∧ ws' = ws) mNo := by
  refine mCt.of (by decide +kernel) (Nat.le_of_ble_eq_true rfl) (fun X hX hE => ?_)
  replace hX : mOK X RX2 cX2_nanoOf 2 ⟨1, 0, 0, 25⟩ [] tys := hX
  refine r_lload_n hX dX2_nanoOf_0 rfl rfl (r_ldc2Z (z := 1000000000) hX kc_X2_72 (by decide +kernel) dX2_nanoOf_1 (r_callS hX (z_J9_floorMod _ _ _ _ (by first | with_reducible assumption | decide | omega) (by unfold zD; omega)) ks_X2_277 rfl rfl (Nat.le_of_ble_eq_true rfl) ⟨(Nat.le_of_ble_eq_true rfl), (Nat.le_of_ble_eq_true rfl)⟩ ⟨(Nat.le_of_ble_eq_true rfl), (Nat.le_of_ble_eq_true rfl)⟩ dX2_nanoOf_4 (fun _ _ z => False.elim z) (fun v9 ws9 h1 => ?_)))
  obtain ⟨rfl, hw9⟩ := h1
  subst ws9
  dsimp only [mPush]
  refine r_l2iZ hX dX2_nanoOf_7 (r_iret hX hE dX2_nanoOf_8 (Nat.le_of_ble_eq_true rfl) (Nat.le_of_ble_eq_true rfl) ⟨zi ?_, rfl⟩)
  rfl
/-- the amount to move by -/
def zSg (a : Int) (b : Bool) : Int := cond b (-a) a
theorem zSg_b {a : Int} {b : Bool} (h : rJ a) : -2147483648 ≤ zSg a b ∧ zSg a b ≤ 2147483648 := by cases b <;> simp only [zSg, cond] <;> omega
def zSn (n u b : Int) : Int := if u = 2 then b * 7 * 86400 else if u = 3 then b * 86400 else if u = 4 then b * 3600 else if u = 5 then b * 60 else if u = 6 then b else (n + b) / 1000000000
def zNn (n u b : Int) : Int := if u = 7 then (n + b) % 1000000000 else n
theorem zSn_b {n u b : Int} (hn : 0 ≤ n ∧ n ≤ 999999999) (hb : -2147483648 ≤ b ∧ b ≤ 2147483648) : -1400000000000000 ≤ zSn n u b ∧ zSn n u b ≤ 1400000000000000 := by
  unfold zSn
  repeat' split
  all_goals omega
theorem zNn_b {n u b : Int} (hn : 0 ≤ n ∧ n ≤ 999999999) : 0 ≤ zNn n u b ∧ zNn n u b ≤ 999999999 := by
  unfold zNn
  split <;> omega
set_option maxHeartbeats 4000000 in
set_option maxRecDepth 20000 in
theorem z_X2_signed (tys : List (ClassId × FieldType)) (ws : va_W) (a : Int) (b : Bool) (ha : rJ a)  : mCt tys yX2_signed cX2_signed 2 (some .long) ⟨0, 0, 0, 0⟩ [.int (iZ a), .int (b2i b)] ws (fun v ws' => v = some (.long (lZ (zSg a b))) ∧ ws' = ws) mNo := by
  refine mCt.of (by decide +kernel) (Nat.le_of_ble_eq_true rfl) (fun X hX hE => ?_)
  replace hX : mOK X RX2 cX2_signed 2 ⟨0, 0, 0, 0⟩ [] tys := hX
  refine r_iload_n hX dX2_signed_0 rfl rfl (r_if_eqB (tgt := 10) hX dX2_signed_1 (by decide) (fun c1 => ?_) (fun c1 => ?_))
  · have c1 := id c1
    refine r_iload_n hX dX2_signed_10 rfl rfl (r_i2lZ hX dX2_signed_11 (by first | with_reducible assumption | decide | omega) (r_lret hX hE dX2_signed_12 (Nat.le_of_ble_eq_true rfl) (Nat.le_of_ble_eq_true rfl) ⟨zl ?_, rfl⟩))
    cases b <;> simp_all [zSg]
  · have c1 := id c1
    refine r_iload_n hX dX2_signed_4 rfl rfl (r_i2lZ hX dX2_signed_5 (by first | with_reducible assumption | decide | omega) (r_lnegZ hX dX2_signed_6 (r_goto (tgt := 12) hX dX2_signed_7 (by decide) (r_lret hX hE dX2_signed_12 (Nat.le_of_ble_eq_true rfl) (Nat.le_of_ble_eq_true rfl) ⟨zl ?_, rfl⟩))))
    cases b <;> simp_all [zSg]
set_option maxHeartbeats 4000000 in
set_option maxRecDepth 20000 in
theorem z_X2_secondsOn (tys : List (ClassId × FieldType)) (ws : va_W) (q0 a0 : Nat) (s0 n0 o0 : Int) (h0 : ws[q0]? = some (a0, .inr (2, [.long (lZ s0), .int (iZ n0), .int (iZ o0)]))) (r0 : ((-100000000000 ≤ s0 ∧ s0 ≤ 100000000000) ∧ (0 ≤ n0 ∧ n0 ≤ 999999999) ∧ (-64800 ≤ o0 ∧ o0 ≤ 64800))) (u : Int) (hu : rJ u) (by_ : Int) (hby : -2147483648 ≤ by_ ∧ by_ ≤ 2147483648)  : mCt tys yX2_secondsOn cX2_secondsOn 4 (some .long) ⟨2, 0, 0, 46⟩ [.ref a0, .int (iZ u), .long (lZ by_)] ws (fun v ws' => v = some (.long (lZ (zSn n0 u by_))) ∧ ws' = ws) mNo := by
  refine mCt.of (by decide +kernel) (Nat.le_of_ble_eq_true rfl) (fun X hX hE => ?_)
  replace hX : mOK X RX2 cX2_secondsOn 4 ⟨2, 0, 0, 46⟩ [] tys := hX
  refine r_iload_n hX dX2_secondsOn_0 rfl rfl ?_
  by_cases s1 : u = 2
  · refine r_tableInZ (z := 2) (off := 35) (tgt := 36) hX dX2_secondsOn_1 s1 (by decide) (by decide) (by decide) rfl (by decide) (r_lload_n hX dX2_secondsOn_36 rfl rfl (r_ldc2Z (z := 7) hX kc_X2_302 (by decide +kernel) dX2_secondsOn_37 (r_lmulZ hX dX2_secondsOn_40 (r_ldc2Z (z := 86400) hX kc_X2_130 (by decide +kernel) dX2_secondsOn_41 (r_lmulZ hX dX2_secondsOn_44 (r_lret hX hE dX2_secondsOn_45 (Nat.le_of_ble_eq_true rfl) (Nat.le_of_ble_eq_true rfl) ⟨zl ?_, rfl⟩))))))
    unfold zSn
    rw [if_pos (by first | (rw [s1]; decide) | omega)]
  by_cases s2 : u = 3
  · refine r_tableInZ (z := 3) (off := 45) (tgt := 46) hX dX2_secondsOn_1 s2 (by decide) (by decide) (by decide) rfl (by decide) (r_lload_n hX dX2_secondsOn_46 rfl rfl (r_ldc2Z (z := 86400) hX kc_X2_130 (by decide +kernel) dX2_secondsOn_47 (r_lmulZ hX dX2_secondsOn_50 (r_lret hX hE dX2_secondsOn_51 (Nat.le_of_ble_eq_true rfl) (Nat.le_of_ble_eq_true rfl) ⟨zl ?_, rfl⟩))))
    unfold zSn
    rw [if_neg (by first | (rw [s2]; decide) | omega)]
    rw [if_pos (by first | (rw [s2]; decide) | omega)]
  by_cases s3 : u = 4
  · refine r_tableInZ (z := 4) (off := 51) (tgt := 52) hX dX2_secondsOn_1 s3 (by decide) (by decide) (by decide) rfl (by decide) (r_lload_n hX dX2_secondsOn_52 rfl rfl (r_ldc2Z (z := 3600) hX kc_X2_304 (by decide +kernel) dX2_secondsOn_53 (r_lmulZ hX dX2_secondsOn_56 (r_lret hX hE dX2_secondsOn_57 (Nat.le_of_ble_eq_true rfl) (Nat.le_of_ble_eq_true rfl) ⟨zl ?_, rfl⟩))))
    unfold zSn
    rw [if_neg (by first | (rw [s3]; decide) | omega)]
    rw [if_neg (by first | (rw [s3]; decide) | omega)]
    rw [if_pos (by first | (rw [s3]; decide) | omega)]
  by_cases s4 : u = 5
  · refine r_tableInZ (z := 5) (off := 57) (tgt := 58) hX dX2_secondsOn_1 s4 (by decide) (by decide) (by decide) rfl (by decide) (r_lload_n hX dX2_secondsOn_58 rfl rfl (r_ldc2Z (z := 60) hX kc_X2_306 (by decide +kernel) dX2_secondsOn_59 (r_lmulZ hX dX2_secondsOn_62 (r_lret hX hE dX2_secondsOn_63 (Nat.le_of_ble_eq_true rfl) (Nat.le_of_ble_eq_true rfl) ⟨zl ?_, rfl⟩))))
    unfold zSn
    rw [if_neg (by first | (rw [s4]; decide) | omega)]
    rw [if_neg (by first | (rw [s4]; decide) | omega)]
    rw [if_neg (by first | (rw [s4]; decide) | omega)]
    rw [if_pos (by first | (rw [s4]; decide) | omega)]
  by_cases s5 : u = 6
  · refine r_tableInZ (z := 6) (off := 63) (tgt := 64) hX dX2_secondsOn_1 s5 (by decide) (by decide) (by decide) rfl (by decide) (r_lload_n hX dX2_secondsOn_64 rfl rfl (r_lret hX hE dX2_secondsOn_65 (Nat.le_of_ble_eq_true rfl) (Nat.le_of_ble_eq_true rfl) ⟨zl ?_, rfl⟩))
    unfold zSn
    rw [if_neg (by first | (rw [s5]; decide) | omega)]
    rw [if_neg (by first | (rw [s5]; decide) | omega)]
    rw [if_neg (by first | (rw [s5]; decide) | omega)]
    rw [if_neg (by first | (rw [s5]; decide) | omega)]
    rw [if_pos (by first | (rw [s5]; decide) | omega)]
  refine r_tableOutZ (tgt := 66) hX dX2_secondsOn_1 (by first | with_reducible assumption | decide | omega) (by first | with_reducible assumption | decide | omega) (by decide) (r_aload_n hX dX2_secondsOn_66 rfl rfl (r_getN hX kg_X2_172 q0 h0 rfl dX2_secondsOn_67 (r_i2lZ hX dX2_secondsOn_70 (by first | with_reducible assumption | decide | omega) (r_lload_n hX dX2_secondsOn_71 rfl rfl (r_laddZ hX dX2_secondsOn_72 (r_callS hX (z_X2_secondOf _ _ _ (by first | with_reducible assumption | decide | omega)) ks_X2_96 rfl rfl (Nat.le_of_ble_eq_true rfl) ⟨(Nat.le_of_ble_eq_true rfl), (Nat.le_of_ble_eq_true rfl)⟩ ⟨(Nat.le_of_ble_eq_true rfl), (Nat.le_of_ble_eq_true rfl)⟩ dX2_secondsOn_73 (fun _ _ z => False.elim z) (fun v9 ws9 h6 => ?_)))))))
  obtain ⟨rfl, hw9⟩ := h6
  subst ws9
  dsimp only [mPush]
  refine r_lret hX hE dX2_secondsOn_76 (Nat.le_of_ble_eq_true rfl) (Nat.le_of_ble_eq_true rfl) ⟨zl ?_, rfl⟩
  unfold zSn
  rw [if_neg (by omega)]
  rw [if_neg (by omega)]
  rw [if_neg (by omega)]
  rw [if_neg (by omega)]
  rw [if_neg (by omega)]
set_option maxHeartbeats 4000000 in
set_option maxRecDepth 20000 in
theorem z_X2_nanoOn (tys : List (ClassId × FieldType)) (ws : va_W) (q0 a0 : Nat) (s0 n0 o0 : Int) (h0 : ws[q0]? = some (a0, .inr (2, [.long (lZ s0), .int (iZ n0), .int (iZ o0)]))) (r0 : ((-100000000000 ≤ s0 ∧ s0 ≤ 100000000000) ∧ (0 ≤ n0 ∧ n0 ≤ 999999999) ∧ (-64800 ≤ o0 ∧ o0 ≤ 64800))) (u : Int) (hu : rJ u) (by_ : Int) (hby : -2147483648 ≤ by_ ∧ by_ ≤ 2147483648)  : mCt tys yX2_nanoOn cX2_nanoOn 4 (some .int) ⟨2, 0, 0, 46⟩ [.ref a0, .int (iZ u), .long (lZ by_)] ws (fun v ws' => v = some (.int (iZ (zNn n0 u by_))) ∧ ws' = ws) mNo := by
  refine mCt.of (by decide +kernel) (Nat.le_of_ble_eq_true rfl) (fun X hX hE => ?_)
  replace hX : mOK X RX2 cX2_nanoOn 4 ⟨2, 0, 0, 46⟩ [] tys := hX
  refine r_iload_n hX dX2_nanoOn_0 rfl rfl (r_bipushZ hX dX2_nanoOn_1 (by decide +kernel) (r_icmp_neZ (tgt := 19) hX dX2_nanoOn_3 (by decide) (by first | with_reducible assumption | decide | omega) (by decide) (fun c1 => ?_) (fun c1 => ?_)))
  · refine r_aload_n hX dX2_nanoOn_19 rfl rfl (r_getN hX kg_X2_172 q0 h0 rfl dX2_nanoOn_20 (r_iret hX hE dX2_nanoOn_23 (Nat.le_of_ble_eq_true rfl) (Nat.le_of_ble_eq_true rfl) ⟨zi ?_, rfl⟩))
    unfold zNn
    first | exact (if_pos (by omega)).symm | exact (if_neg (by omega)).symm | exact (if_pos (by assumption)).symm | exact (if_neg (by assumption)).symm
  · refine r_aload_n hX dX2_nanoOn_6 rfl rfl (r_getN hX kg_X2_172 q0 h0 rfl dX2_nanoOn_7 (r_i2lZ hX dX2_nanoOn_10 (by first | with_reducible assumption | decide | omega) (r_lload_n hX dX2_nanoOn_11 rfl rfl (r_laddZ hX dX2_nanoOn_12 (r_callS hX (z_X2_nanoOf _ _ _ (by first | with_reducible assumption | decide | omega)) ks_X2_92 rfl rfl (Nat.le_of_ble_eq_true rfl) ⟨(Nat.le_of_ble_eq_true rfl), (Nat.le_of_ble_eq_true rfl)⟩ ⟨(Nat.le_of_ble_eq_true rfl), (Nat.le_of_ble_eq_true rfl)⟩ dX2_nanoOn_13 (fun _ _ z => False.elim z) (fun v9 ws9 h2 => ?_))))))
    obtain ⟨rfl, hw9⟩ := h2
    subst ws9
    dsimp only [mPush]
    refine r_goto (tgt := 23) hX dX2_nanoOn_16 (by decide) (r_iret hX hE dX2_nanoOn_23 (Nat.le_of_ble_eq_true rfl) (Nat.le_of_ble_eq_true rfl) ⟨zi ?_, rfl⟩)
    unfold zNn
    first | exact (if_pos (by omega)).symm | exact (if_neg (by omega)).symm | exact (if_pos (by assumption)).symm | exact (if_neg (by assumption)).symm
/-- the parts of a DATED, of a CLOCK -/
def zDP (s n o w : Int) : Int := if w = 0 then (YR (s / 86400) : Nat) else if w = 1 then (MO (s / 86400) : Nat) else if w = 2 then DOM (s / 86400) else if w = 3 then s / 86400 - FO (YR (s / 86400)) + 1 else if w = 4 then s % 86400 / 3600 else if w = 5 then s % 86400 / 60 % 60 else if w = 6 then s % 86400 % 60 else if w = 7 then n else if w = 8 then (s / 86400 + 3) % 7 + 1 else if w = 9 then o else if w = 10 then s - o else if w = 11 then s / 86400 else s % 86400
def zCP (s n o w : Int) : Int := if w = 0 then s % 86400 / 3600 else if w = 1 then s % 86400 / 60 % 60 else if w = 2 then s % 86400 % 60 else if w = 3 then n else if w = 4 then o else s % 86400
def zSo (s n o s0 n0 o0 w : Int) : Bool := if w = 0 then decide (zMo s n o s0 n0 o0 < 0) else if w = 1 then decide (zMo s0 n0 o0 s n o < 0) else if w = 2 then decide (s - o = s0 - o0 ∧ n = n0) else decide (s = s0 ∧ n = n0 ∧ o = o0)
set_option maxHeartbeats 4000000 in
set_option maxRecDepth 20000 in
theorem z_X2_datePart (tys : List (ClassId × FieldType)) (ws : va_W) (q0 a0 : Nat) (s0 n0 o0 : Int) (h0 : ws[q0]? = some (a0, .inr (2, [.long (lZ s0), .int (iZ n0), .int (iZ o0)]))) (r0 : ((-100000000000 ≤ s0 ∧ s0 ≤ 100000000000) ∧ (0 ≤ n0 ∧ n0 ≤ 999999999) ∧ (-64800 ≤ o0 ∧ o0 ≤ 64800))) (w : Int) (hw : rJ w) (hd : -21915 ≤ s0 / 86400 ∧ s0 / 86400 ≤ 22279)  : mCt tys yX2_datePart cX2_datePart 3 (some .int) ⟨4, 0, 0, 85⟩ [.ref a0, .int (iZ w)] ws (fun v ws' => v = some (.int (iZ (zDP s0 n0 o0 w))) ∧ ws' = ws) mNo := by
  refine mCt.of (by decide +kernel) (Nat.le_of_ble_eq_true rfl) (fun X hX hE => ?_)
  replace hX : mOK X RX2 cX2_datePart 3 ⟨4, 0, 0, 85⟩ [] tys := hX
  refine r_aload_n hX dX2_datePart_0 rfl rfl (r_callV hX (z_X1_day _ _ q0 _ _ _ _ h0 r0) kv_X2_274 q0 h0 rfl rfl rfl (Nat.le_of_ble_eq_true rfl) ⟨(Nat.le_of_ble_eq_true rfl), (Nat.le_of_ble_eq_true rfl)⟩ ⟨(Nat.le_of_ble_eq_true rfl), (Nat.le_of_ble_eq_true rfl)⟩ dX2_datePart_1 (fun _ _ z => False.elim z) (fun v9 ws9 h1 => ?_))
  obtain ⟨rfl, hw9⟩ := h1
  subst ws9
  dsimp only [mPush]
  refine r_istore_n hX dX2_datePart_4 rfl (by decide) rfl (r_iload_n hX dX2_datePart_5 rfl rfl ?_)
  by_cases s2 : w = 0
  · refine r_tableInZ (z := 0) (off := 62) (tgt := 68) hX dX2_datePart_6 s2 (by decide) (by decide) (by decide) rfl (by decide) (r_iload_n hX dX2_datePart_68 rfl rfl (r_callS hX (z_X0_yearOf _ _ _ (by first | with_reducible assumption | decide | omega)) ks_X2_323 rfl rfl (Nat.le_of_ble_eq_true rfl) ⟨(Nat.le_of_ble_eq_true rfl), (Nat.le_of_ble_eq_true rfl)⟩ ⟨(Nat.le_of_ble_eq_true rfl), (Nat.le_of_ble_eq_true rfl)⟩ dX2_datePart_69 (fun _ _ z => False.elim z) (fun v9 ws9 h3 => ?_)))
    obtain ⟨rfl, hw9⟩ := h3
    subst ws9
    dsimp only [mPush]
    refine r_iret hX hE dX2_datePart_72 (Nat.le_of_ble_eq_true rfl) (Nat.le_of_ble_eq_true rfl) ⟨zi ?_, rfl⟩
    unfold zDP
    rw [if_pos (by first | (rw [s2]; decide) | omega)]
  by_cases s4 : w = 1
  · refine r_tableInZ (z := 1) (off := 67) (tgt := 73) hX dX2_datePart_6 s4 (by decide) (by decide) (by decide) rfl (by decide) (r_iload_n hX dX2_datePart_73 rfl rfl (r_callS hX (z_X0_monthOf _ _ _ (by first | with_reducible assumption | decide | omega)) ks_X2_326 rfl rfl (Nat.le_of_ble_eq_true rfl) ⟨(Nat.le_of_ble_eq_true rfl), (Nat.le_of_ble_eq_true rfl)⟩ ⟨(Nat.le_of_ble_eq_true rfl), (Nat.le_of_ble_eq_true rfl)⟩ dX2_datePart_74 (fun _ _ z => False.elim z) (fun v9 ws9 h5 => ?_)))
    obtain ⟨rfl, hw9⟩ := h5
    subst ws9
    dsimp only [mPush]
    refine r_iret hX hE dX2_datePart_77 (Nat.le_of_ble_eq_true rfl) (Nat.le_of_ble_eq_true rfl) ⟨zi ?_, rfl⟩
    unfold zDP
    rw [if_neg (by first | (rw [s4]; decide) | omega)]
    rw [if_pos (by first | (rw [s4]; decide) | omega)]
  by_cases s6 : w = 2
  · refine r_tableInZ (z := 2) (off := 72) (tgt := 78) hX dX2_datePart_6 s6 (by decide) (by decide) (by decide) rfl (by decide) (r_iload_n hX dX2_datePart_78 rfl rfl (r_callS hX (z_X0_dayOfMonth _ _ _ (by first | with_reducible assumption | decide | omega)) ks_X2_311 rfl rfl (Nat.le_of_ble_eq_true rfl) ⟨(Nat.le_of_ble_eq_true rfl), (Nat.le_of_ble_eq_true rfl)⟩ ⟨(Nat.le_of_ble_eq_true rfl), (Nat.le_of_ble_eq_true rfl)⟩ dX2_datePart_79 (fun _ _ z => False.elim z) (fun v9 ws9 h7 => ?_)))
    obtain ⟨rfl, hw9⟩ := h7
    subst ws9
    dsimp only [mPush]
    refine r_iret hX hE dX2_datePart_82 (Nat.le_of_ble_eq_true rfl) (Nat.le_of_ble_eq_true rfl) ⟨zi ?_, rfl⟩
    unfold zDP
    rw [if_neg (by first | (rw [s6]; decide) | omega)]
    rw [if_neg (by first | (rw [s6]; decide) | omega)]
    rw [if_pos (by first | (rw [s6]; decide) | omega)]
  by_cases s8 : w = 3
  · refine r_tableInZ (z := 3) (off := 77) (tgt := 83) hX dX2_datePart_6 s8 (by decide) (by decide) (by decide) rfl (by decide) (r_iload_n hX dX2_datePart_83 rfl rfl (r_callS hX (z_X0_dayOfYear _ _ _ (by first | with_reducible assumption | decide | omega)) ks_X2_350 rfl rfl (Nat.le_of_ble_eq_true rfl) ⟨(Nat.le_of_ble_eq_true rfl), (Nat.le_of_ble_eq_true rfl)⟩ ⟨(Nat.le_of_ble_eq_true rfl), (Nat.le_of_ble_eq_true rfl)⟩ dX2_datePart_84 (fun _ _ z => False.elim z) (fun v9 ws9 h9 => ?_)))
    obtain ⟨rfl, hw9⟩ := h9
    subst ws9
    dsimp only [mPush]
    refine r_iret hX hE dX2_datePart_87 (Nat.le_of_ble_eq_true rfl) (Nat.le_of_ble_eq_true rfl) ⟨zi ?_, rfl⟩
    unfold zDP
    rw [if_neg (by first | (rw [s8]; decide) | omega)]
    rw [if_neg (by first | (rw [s8]; decide) | omega)]
    rw [if_neg (by first | (rw [s8]; decide) | omega)]
    rw [if_pos (by first | (rw [s8]; decide) | omega)]
  by_cases s10 : w = 4
  · refine r_tableInZ (z := 4) (off := 82) (tgt := 88) hX dX2_datePart_6 s10 (by decide) (by decide) (by decide) rfl (by decide) (r_aload_n hX dX2_datePart_88 rfl rfl (r_callV hX (z_X1_hour _ _ q0 _ _ _ _ h0 r0) kv_X2_335 q0 h0 rfl rfl rfl (Nat.le_of_ble_eq_true rfl) ⟨(Nat.le_of_ble_eq_true rfl), (Nat.le_of_ble_eq_true rfl)⟩ ⟨(Nat.le_of_ble_eq_true rfl), (Nat.le_of_ble_eq_true rfl)⟩ dX2_datePart_89 (fun _ _ z => False.elim z) (fun v9 ws9 h11 => ?_)))
    obtain ⟨rfl, hw9⟩ := h11
    subst ws9
    dsimp only [mPush]
    refine r_iret hX hE dX2_datePart_92 (Nat.le_of_ble_eq_true rfl) (Nat.le_of_ble_eq_true rfl) ⟨zi ?_, rfl⟩
    unfold zDP
    rw [if_neg (by first | (rw [s10]; decide) | omega)]
    rw [if_neg (by first | (rw [s10]; decide) | omega)]
    rw [if_neg (by first | (rw [s10]; decide) | omega)]
    rw [if_neg (by first | (rw [s10]; decide) | omega)]
    rw [if_pos (by first | (rw [s10]; decide) | omega)]
  by_cases s12 : w = 5
  · refine r_tableInZ (z := 5) (off := 87) (tgt := 93) hX dX2_datePart_6 s12 (by decide) (by decide) (by decide) rfl (by decide) (r_aload_n hX dX2_datePart_93 rfl rfl (r_callV hX (z_X1_minute _ _ q0 _ _ _ _ h0 r0) kv_X2_342 q0 h0 rfl rfl rfl (Nat.le_of_ble_eq_true rfl) ⟨(Nat.le_of_ble_eq_true rfl), (Nat.le_of_ble_eq_true rfl)⟩ ⟨(Nat.le_of_ble_eq_true rfl), (Nat.le_of_ble_eq_true rfl)⟩ dX2_datePart_94 (fun _ _ z => False.elim z) (fun v9 ws9 h13 => ?_)))
    obtain ⟨rfl, hw9⟩ := h13
    subst ws9
    dsimp only [mPush]
    refine r_iret hX hE dX2_datePart_97 (Nat.le_of_ble_eq_true rfl) (Nat.le_of_ble_eq_true rfl) ⟨zi ?_, rfl⟩
    unfold zDP
    rw [if_neg (by first | (rw [s12]; decide) | omega)]
    rw [if_neg (by first | (rw [s12]; decide) | omega)]
    rw [if_neg (by first | (rw [s12]; decide) | omega)]
    rw [if_neg (by first | (rw [s12]; decide) | omega)]
    rw [if_neg (by first | (rw [s12]; decide) | omega)]
    rw [if_pos (by first | (rw [s12]; decide) | omega)]
  by_cases s14 : w = 6
  · refine r_tableInZ (z := 6) (off := 92) (tgt := 98) hX dX2_datePart_6 s14 (by decide) (by decide) (by decide) rfl (by decide) (r_aload_n hX dX2_datePart_98 rfl rfl (r_callV hX (z_X1_secondOfMinute _ _ q0 _ _ _ _ h0 r0) kv_X2_345 q0 h0 rfl rfl rfl (Nat.le_of_ble_eq_true rfl) ⟨(Nat.le_of_ble_eq_true rfl), (Nat.le_of_ble_eq_true rfl)⟩ ⟨(Nat.le_of_ble_eq_true rfl), (Nat.le_of_ble_eq_true rfl)⟩ dX2_datePart_99 (fun _ _ z => False.elim z) (fun v9 ws9 h15 => ?_)))
    obtain ⟨rfl, hw9⟩ := h15
    subst ws9
    dsimp only [mPush]
    refine r_iret hX hE dX2_datePart_102 (Nat.le_of_ble_eq_true rfl) (Nat.le_of_ble_eq_true rfl) ⟨zi ?_, rfl⟩
    unfold zDP
    rw [if_neg (by first | (rw [s14]; decide) | omega)]
    rw [if_neg (by first | (rw [s14]; decide) | omega)]
    rw [if_neg (by first | (rw [s14]; decide) | omega)]
    rw [if_neg (by first | (rw [s14]; decide) | omega)]
    rw [if_neg (by first | (rw [s14]; decide) | omega)]
    rw [if_neg (by first | (rw [s14]; decide) | omega)]
    rw [if_pos (by first | (rw [s14]; decide) | omega)]
  by_cases s16 : w = 7
  · refine r_tableInZ (z := 7) (off := 97) (tgt := 103) hX dX2_datePart_6 s16 (by decide) (by decide) (by decide) rfl (by decide) (r_aload_n hX dX2_datePart_103 rfl rfl (r_getN hX kg_X2_172 q0 h0 rfl dX2_datePart_104 (r_iret hX hE dX2_datePart_107 (Nat.le_of_ble_eq_true rfl) (Nat.le_of_ble_eq_true rfl) ⟨zi ?_, rfl⟩)))
    unfold zDP
    rw [if_neg (by first | (rw [s16]; decide) | omega)]
    rw [if_neg (by first | (rw [s16]; decide) | omega)]
    rw [if_neg (by first | (rw [s16]; decide) | omega)]
    rw [if_neg (by first | (rw [s16]; decide) | omega)]
    rw [if_neg (by first | (rw [s16]; decide) | omega)]
    rw [if_neg (by first | (rw [s16]; decide) | omega)]
    rw [if_neg (by first | (rw [s16]; decide) | omega)]
    rw [if_pos (by first | (rw [s16]; decide) | omega)]
  by_cases s17 : w = 8
  · refine r_tableInZ (z := 8) (off := 102) (tgt := 108) hX dX2_datePart_6 s17 (by decide) (by decide) (by decide) rfl (by decide) (r_iload_n hX dX2_datePart_108 rfl rfl (r_callS hX (z_X0_dayOfWeek _ _ _ (by first | with_reducible assumption | decide | omega)) ks_X2_353 rfl rfl (Nat.le_of_ble_eq_true rfl) ⟨(Nat.le_of_ble_eq_true rfl), (Nat.le_of_ble_eq_true rfl)⟩ ⟨(Nat.le_of_ble_eq_true rfl), (Nat.le_of_ble_eq_true rfl)⟩ dX2_datePart_109 (fun _ _ z => False.elim z) (fun v9 ws9 h18 => ?_)))
    obtain ⟨rfl, hw9⟩ := h18
    subst ws9
    dsimp only [mPush]
    refine r_iret hX hE dX2_datePart_112 (Nat.le_of_ble_eq_true rfl) (Nat.le_of_ble_eq_true rfl) ⟨zi ?_, rfl⟩
    unfold zDP
    rw [if_neg (by first | (rw [s17]; decide) | omega)]
    rw [if_neg (by first | (rw [s17]; decide) | omega)]
    rw [if_neg (by first | (rw [s17]; decide) | omega)]
    rw [if_neg (by first | (rw [s17]; decide) | omega)]
    rw [if_neg (by first | (rw [s17]; decide) | omega)]
    rw [if_neg (by first | (rw [s17]; decide) | omega)]
    rw [if_neg (by first | (rw [s17]; decide) | omega)]
    rw [if_neg (by first | (rw [s17]; decide) | omega)]
    rw [if_pos (by first | (rw [s17]; decide) | omega)]
  by_cases s19 : w = 9
  · refine r_tableInZ (z := 9) (off := 107) (tgt := 113) hX dX2_datePart_6 s19 (by decide) (by decide) (by decide) rfl (by decide) (r_aload_n hX dX2_datePart_113 rfl rfl (r_getN hX kg_X2_158 q0 h0 rfl dX2_datePart_114 (r_iret hX hE dX2_datePart_117 (Nat.le_of_ble_eq_true rfl) (Nat.le_of_ble_eq_true rfl) ⟨zi ?_, rfl⟩)))
    unfold zDP
    rw [if_neg (by first | (rw [s19]; decide) | omega)]
    rw [if_neg (by first | (rw [s19]; decide) | omega)]
    rw [if_neg (by first | (rw [s19]; decide) | omega)]
    rw [if_neg (by first | (rw [s19]; decide) | omega)]
    rw [if_neg (by first | (rw [s19]; decide) | omega)]
    rw [if_neg (by first | (rw [s19]; decide) | omega)]
    rw [if_neg (by first | (rw [s19]; decide) | omega)]
    rw [if_neg (by first | (rw [s19]; decide) | omega)]
    rw [if_neg (by first | (rw [s19]; decide) | omega)]
    rw [if_pos (by first | (rw [s19]; decide) | omega)]
  by_cases s20 : w = 10
  · refine r_tableInZ (z := 10) (off := 112) (tgt := 118) hX dX2_datePart_6 s20 (by decide) (by decide) (by decide) rfl (by decide) (r_aload_n hX dX2_datePart_118 rfl rfl (r_callV hX (z_X1_momentSecond _ _ q0 _ _ _ _ h0 r0) kv_X2_169 q0 h0 rfl rfl rfl (Nat.le_of_ble_eq_true rfl) ⟨(Nat.le_of_ble_eq_true rfl), (Nat.le_of_ble_eq_true rfl)⟩ ⟨(Nat.le_of_ble_eq_true rfl), (Nat.le_of_ble_eq_true rfl)⟩ dX2_datePart_119 (fun _ _ z => False.elim z) (fun v9 ws9 h21 => ?_)))
    obtain ⟨rfl, hw9⟩ := h21
    subst ws9
    dsimp only [mPush]
    refine r_l2iZ hX dX2_datePart_122 (r_iret hX hE dX2_datePart_123 (Nat.le_of_ble_eq_true rfl) (Nat.le_of_ble_eq_true rfl) ⟨zi ?_, rfl⟩)
    unfold zDP
    rw [if_neg (by first | (rw [s20]; decide) | omega)]
    rw [if_neg (by first | (rw [s20]; decide) | omega)]
    rw [if_neg (by first | (rw [s20]; decide) | omega)]
    rw [if_neg (by first | (rw [s20]; decide) | omega)]
    rw [if_neg (by first | (rw [s20]; decide) | omega)]
    rw [if_neg (by first | (rw [s20]; decide) | omega)]
    rw [if_neg (by first | (rw [s20]; decide) | omega)]
    rw [if_neg (by first | (rw [s20]; decide) | omega)]
    rw [if_neg (by first | (rw [s20]; decide) | omega)]
    rw [if_neg (by first | (rw [s20]; decide) | omega)]
    rw [if_pos (by first | (rw [s20]; decide) | omega)]
  by_cases s22 : w = 11
  · refine r_tableInZ (z := 11) (off := 118) (tgt := 124) hX dX2_datePart_6 s22 (by decide) (by decide) (by decide) rfl (by decide) (r_iload_n hX dX2_datePart_124 rfl rfl (r_iret hX hE dX2_datePart_125 (Nat.le_of_ble_eq_true rfl) (Nat.le_of_ble_eq_true rfl) ⟨zi ?_, rfl⟩))
    unfold zDP
    rw [if_neg (by first | (rw [s22]; decide) | omega)]
    rw [if_neg (by first | (rw [s22]; decide) | omega)]
    rw [if_neg (by first | (rw [s22]; decide) | omega)]
    rw [if_neg (by first | (rw [s22]; decide) | omega)]
    rw [if_neg (by first | (rw [s22]; decide) | omega)]
    rw [if_neg (by first | (rw [s22]; decide) | omega)]
    rw [if_neg (by first | (rw [s22]; decide) | omega)]
    rw [if_neg (by first | (rw [s22]; decide) | omega)]
    rw [if_neg (by first | (rw [s22]; decide) | omega)]
    rw [if_neg (by first | (rw [s22]; decide) | omega)]
    rw [if_neg (by first | (rw [s22]; decide) | omega)]
    rw [if_pos (by first | (rw [s22]; decide) | omega)]
  refine r_tableOutZ (tgt := 126) hX dX2_datePart_6 (by first | with_reducible assumption | decide | omega) (by first | with_reducible assumption | decide | omega) (by decide) (r_aload_n hX dX2_datePart_126 rfl rfl (r_callV hX (z_X1_secondOfDay _ _ q0 _ _ _ _ h0 r0) kv_X2_320 q0 h0 rfl rfl rfl (Nat.le_of_ble_eq_true rfl) ⟨(Nat.le_of_ble_eq_true rfl), (Nat.le_of_ble_eq_true rfl)⟩ ⟨(Nat.le_of_ble_eq_true rfl), (Nat.le_of_ble_eq_true rfl)⟩ dX2_datePart_127 (fun _ _ z => False.elim z) (fun v9 ws9 h23 => ?_)))
  obtain ⟨rfl, hw9⟩ := h23
  subst ws9
  dsimp only [mPush]
  refine r_iret hX hE dX2_datePart_130 (Nat.le_of_ble_eq_true rfl) (Nat.le_of_ble_eq_true rfl) ⟨zi ?_, rfl⟩
  unfold zDP
  rw [if_neg (by omega)]
  rw [if_neg (by omega)]
  rw [if_neg (by omega)]
  rw [if_neg (by omega)]
  rw [if_neg (by omega)]
  rw [if_neg (by omega)]
  rw [if_neg (by omega)]
  rw [if_neg (by omega)]
  rw [if_neg (by omega)]
  rw [if_neg (by omega)]
  rw [if_neg (by omega)]
  rw [if_neg (by omega)]
set_option maxHeartbeats 4000000 in
set_option maxRecDepth 20000 in
theorem z_X2_clockPart (tys : List (ClassId × FieldType)) (ws : va_W) (q0 a0 : Nat) (s0 n0 o0 : Int) (h0 : ws[q0]? = some (a0, .inr (2, [.long (lZ s0), .int (iZ n0), .int (iZ o0)]))) (r0 : ((-100000000000 ≤ s0 ∧ s0 ≤ 100000000000) ∧ (0 ≤ n0 ∧ n0 ≤ 999999999) ∧ (-64800 ≤ o0 ∧ o0 ≤ 64800))) (w : Int) (hw : rJ w)  : mCt tys yX2_clockPart cX2_clockPart 2 (some .int) ⟨3, 0, 0, 65⟩ [.ref a0, .int (iZ w)] ws (fun v ws' => v = some (.int (iZ (zCP s0 n0 o0 w))) ∧ ws' = ws) mNo := by
  refine mCt.of (by decide +kernel) (Nat.le_of_ble_eq_true rfl) (fun X hX hE => ?_)
  replace hX : mOK X RX2 cX2_clockPart 2 ⟨3, 0, 0, 65⟩ [] tys := hX
  refine r_iload_n hX dX2_clockPart_0 rfl rfl ?_
  by_cases s1 : w = 0
  · refine r_tableInZ (z := 0) (off := 35) (tgt := 36) hX dX2_clockPart_1 s1 (by decide) (by decide) (by decide) rfl (by decide) (r_aload_n hX dX2_clockPart_36 rfl rfl (r_callV hX (z_X1_hour _ _ q0 _ _ _ _ h0 r0) kv_X2_335 q0 h0 rfl rfl rfl (Nat.le_of_ble_eq_true rfl) ⟨(Nat.le_of_ble_eq_true rfl), (Nat.le_of_ble_eq_true rfl)⟩ ⟨(Nat.le_of_ble_eq_true rfl), (Nat.le_of_ble_eq_true rfl)⟩ dX2_clockPart_37 (fun _ _ z => False.elim z) (fun v9 ws9 h2 => ?_)))
    obtain ⟨rfl, hw9⟩ := h2
    subst ws9
    dsimp only [mPush]
    refine r_iret hX hE dX2_clockPart_40 (Nat.le_of_ble_eq_true rfl) (Nat.le_of_ble_eq_true rfl) ⟨zi ?_, rfl⟩
    unfold zCP
    rw [if_pos (by first | (rw [s1]; decide) | omega)]
  by_cases s3 : w = 1
  · refine r_tableInZ (z := 1) (off := 40) (tgt := 41) hX dX2_clockPart_1 s3 (by decide) (by decide) (by decide) rfl (by decide) (r_aload_n hX dX2_clockPart_41 rfl rfl (r_callV hX (z_X1_minute _ _ q0 _ _ _ _ h0 r0) kv_X2_342 q0 h0 rfl rfl rfl (Nat.le_of_ble_eq_true rfl) ⟨(Nat.le_of_ble_eq_true rfl), (Nat.le_of_ble_eq_true rfl)⟩ ⟨(Nat.le_of_ble_eq_true rfl), (Nat.le_of_ble_eq_true rfl)⟩ dX2_clockPart_42 (fun _ _ z => False.elim z) (fun v9 ws9 h4 => ?_)))
    obtain ⟨rfl, hw9⟩ := h4
    subst ws9
    dsimp only [mPush]
    refine r_iret hX hE dX2_clockPart_45 (Nat.le_of_ble_eq_true rfl) (Nat.le_of_ble_eq_true rfl) ⟨zi ?_, rfl⟩
    unfold zCP
    rw [if_neg (by first | (rw [s3]; decide) | omega)]
    rw [if_pos (by first | (rw [s3]; decide) | omega)]
  by_cases s5 : w = 2
  · refine r_tableInZ (z := 2) (off := 45) (tgt := 46) hX dX2_clockPart_1 s5 (by decide) (by decide) (by decide) rfl (by decide) (r_aload_n hX dX2_clockPart_46 rfl rfl (r_callV hX (z_X1_secondOfMinute _ _ q0 _ _ _ _ h0 r0) kv_X2_345 q0 h0 rfl rfl rfl (Nat.le_of_ble_eq_true rfl) ⟨(Nat.le_of_ble_eq_true rfl), (Nat.le_of_ble_eq_true rfl)⟩ ⟨(Nat.le_of_ble_eq_true rfl), (Nat.le_of_ble_eq_true rfl)⟩ dX2_clockPart_47 (fun _ _ z => False.elim z) (fun v9 ws9 h6 => ?_)))
    obtain ⟨rfl, hw9⟩ := h6
    subst ws9
    dsimp only [mPush]
    refine r_iret hX hE dX2_clockPart_50 (Nat.le_of_ble_eq_true rfl) (Nat.le_of_ble_eq_true rfl) ⟨zi ?_, rfl⟩
    unfold zCP
    rw [if_neg (by first | (rw [s5]; decide) | omega)]
    rw [if_neg (by first | (rw [s5]; decide) | omega)]
    rw [if_pos (by first | (rw [s5]; decide) | omega)]
  by_cases s7 : w = 3
  · refine r_tableInZ (z := 3) (off := 50) (tgt := 51) hX dX2_clockPart_1 s7 (by decide) (by decide) (by decide) rfl (by decide) (r_aload_n hX dX2_clockPart_51 rfl rfl (r_getN hX kg_X2_172 q0 h0 rfl dX2_clockPart_52 (r_iret hX hE dX2_clockPart_55 (Nat.le_of_ble_eq_true rfl) (Nat.le_of_ble_eq_true rfl) ⟨zi ?_, rfl⟩)))
    unfold zCP
    rw [if_neg (by first | (rw [s7]; decide) | omega)]
    rw [if_neg (by first | (rw [s7]; decide) | omega)]
    rw [if_neg (by first | (rw [s7]; decide) | omega)]
    rw [if_pos (by first | (rw [s7]; decide) | omega)]
  by_cases s8 : w = 4
  · refine r_tableInZ (z := 4) (off := 55) (tgt := 56) hX dX2_clockPart_1 s8 (by decide) (by decide) (by decide) rfl (by decide) (r_aload_n hX dX2_clockPart_56 rfl rfl (r_getN hX kg_X2_158 q0 h0 rfl dX2_clockPart_57 (r_iret hX hE dX2_clockPart_60 (Nat.le_of_ble_eq_true rfl) (Nat.le_of_ble_eq_true rfl) ⟨zi ?_, rfl⟩)))
    unfold zCP
    rw [if_neg (by first | (rw [s8]; decide) | omega)]
    rw [if_neg (by first | (rw [s8]; decide) | omega)]
    rw [if_neg (by first | (rw [s8]; decide) | omega)]
    rw [if_neg (by first | (rw [s8]; decide) | omega)]
    rw [if_pos (by first | (rw [s8]; decide) | omega)]
  refine r_tableOutZ (tgt := 61) hX dX2_clockPart_1 (by first | with_reducible assumption | decide | omega) (by first | with_reducible assumption | decide | omega) (by decide) (r_aload_n hX dX2_clockPart_61 rfl rfl (r_callV hX (z_X1_secondOfDay _ _ q0 _ _ _ _ h0 r0) kv_X2_320 q0 h0 rfl rfl rfl (Nat.le_of_ble_eq_true rfl) ⟨(Nat.le_of_ble_eq_true rfl), (Nat.le_of_ble_eq_true rfl)⟩ ⟨(Nat.le_of_ble_eq_true rfl), (Nat.le_of_ble_eq_true rfl)⟩ dX2_clockPart_62 (fun _ _ z => False.elim z) (fun v9 ws9 h9 => ?_)))
  obtain ⟨rfl, hw9⟩ := h9
  subst ws9
  dsimp only [mPush]
  refine r_iret hX hE dX2_clockPart_65 (Nat.le_of_ble_eq_true rfl) (Nat.le_of_ble_eq_true rfl) ⟨zi ?_, rfl⟩
  unfold zCP
  rw [if_neg (by omega)]
  rw [if_neg (by omega)]
  rw [if_neg (by omega)]
  rw [if_neg (by omega)]
  rw [if_neg (by omega)]
set_option maxHeartbeats 4000000 in
set_option maxRecDepth 20000 in
theorem z_X2_isSo (tys : List (ClassId × FieldType)) (ws : va_W) (q0 a0 : Nat) (s0 n0 o0 : Int) (h0 : ws[q0]? = some (a0, .inr (2, [.long (lZ s0), .int (iZ n0), .int (iZ o0)]))) (r0 : ((-100000000000 ≤ s0 ∧ s0 ≤ 100000000000) ∧ (0 ≤ n0 ∧ n0 ≤ 999999999) ∧ (-64800 ≤ o0 ∧ o0 ≤ 64800))) (q1 a1 : Nat) (s1 n1 o1 : Int) (h1 : ws[q1]? = some (a1, .inr (2, [.long (lZ s1), .int (iZ n1), .int (iZ o1)]))) (r1 : ((-100000000000 ≤ s1 ∧ s1 ≤ 100000000000) ∧ (0 ≤ n1 ∧ n1 ≤ 999999999) ∧ (-64800 ≤ o1 ∧ o1 ≤ 64800))) (w : Int) (hw : rJ w)  : mCt tys yX2_isSo cX2_isSo 3 (some .boolean) ⟨3, 0, 0, 66⟩ [.ref a0, .ref a1, .int (iZ w)] ws (fun v ws' => v = some (.int (b2i (zSo s0 n0 o0 s1 n1 o1 w))) ∧ ws' = ws) mNo := by
  refine mCt.of (by decide +kernel) (Nat.le_of_ble_eq_true rfl) (fun X hX hE => ?_)
  replace hX : mOK X RX2 cX2_isSo 3 ⟨3, 0, 0, 66⟩ [] tys := hX
  refine r_iload_n hX dX2_isSo_0 rfl rfl ?_
  by_cases s1 : w = 0
  · refine r_tableInZ (z := 0) (off := 27) (tgt := 28) hX dX2_isSo_1 s1 (by decide) (by decide) (by decide) rfl (by decide) (r_aload_n hX dX2_isSo_28 rfl rfl (r_aload_n hX dX2_isSo_29 rfl rfl (r_callV hX (z_X1_isAhead _ _ q0 _ _ _ _ h0 r0 q1 _ _ _ _ h1 r1) kv_X2_356 q0 h0 rfl rfl rfl (Nat.le_of_ble_eq_true rfl) ⟨(Nat.le_of_ble_eq_true rfl), (Nat.le_of_ble_eq_true rfl)⟩ ⟨(Nat.le_of_ble_eq_true rfl), (Nat.le_of_ble_eq_true rfl)⟩ dX2_isSo_30 (fun _ _ z => False.elim z) (fun v9 ws9 h2 => ?_))))
    obtain ⟨rfl, hw9⟩ := h2
    subst ws9
    dsimp only [mPush]
    refine r_zret hX hE dX2_isSo_33 (b2i_n _) (Nat.le_of_ble_eq_true rfl) (Nat.le_of_ble_eq_true rfl) ⟨zb ?_, rfl⟩
    unfold zSo
    rw [if_pos (by first | (rw [s1]; decide) | omega)]
  by_cases s3 : w = 1
  · refine r_tableInZ (z := 1) (off := 33) (tgt := 34) hX dX2_isSo_1 s3 (by decide) (by decide) (by decide) rfl (by decide) (r_aload_n hX dX2_isSo_34 rfl rfl (r_aload_n hX dX2_isSo_35 rfl rfl (r_callV hX (z_X1_isAhead _ _ q1 _ _ _ _ h1 r1 q0 _ _ _ _ h0 r0) kv_X2_356 q1 h1 rfl rfl rfl (Nat.le_of_ble_eq_true rfl) ⟨(Nat.le_of_ble_eq_true rfl), (Nat.le_of_ble_eq_true rfl)⟩ ⟨(Nat.le_of_ble_eq_true rfl), (Nat.le_of_ble_eq_true rfl)⟩ dX2_isSo_36 (fun _ _ z => False.elim z) (fun v9 ws9 h4 => ?_))))
    obtain ⟨rfl, hw9⟩ := h4
    subst ws9
    dsimp only [mPush]
    refine r_zret hX hE dX2_isSo_39 (b2i_n _) (Nat.le_of_ble_eq_true rfl) (Nat.le_of_ble_eq_true rfl) ⟨zb ?_, rfl⟩
    unfold zSo
    rw [if_neg (by first | (rw [s3]; decide) | omega)]
    rw [if_pos (by first | (rw [s3]; decide) | omega)]
  by_cases s5 : w = 2
  · refine r_tableInZ (z := 2) (off := 39) (tgt := 40) hX dX2_isSo_1 s5 (by decide) (by decide) (by decide) rfl (by decide) (r_aload_n hX dX2_isSo_40 rfl rfl (r_aload_n hX dX2_isSo_41 rfl rfl (r_callV hX (z_X1_isAlike _ _ q0 _ _ _ _ h0 r0 q1 _ _ _ _ h1 r1) kv_X2_360 q0 h0 rfl rfl rfl (Nat.le_of_ble_eq_true rfl) ⟨(Nat.le_of_ble_eq_true rfl), (Nat.le_of_ble_eq_true rfl)⟩ ⟨(Nat.le_of_ble_eq_true rfl), (Nat.le_of_ble_eq_true rfl)⟩ dX2_isSo_42 (fun _ _ z => False.elim z) (fun v9 ws9 h6 => ?_))))
    obtain ⟨rfl, hw9⟩ := h6
    subst ws9
    dsimp only [mPush]
    refine r_zret hX hE dX2_isSo_45 (b2i_n _) (Nat.le_of_ble_eq_true rfl) (Nat.le_of_ble_eq_true rfl) ⟨zb ?_, rfl⟩
    unfold zSo
    rw [if_neg (by first | (rw [s5]; decide) | omega)]
    rw [if_neg (by first | (rw [s5]; decide) | omega)]
    rw [if_pos (by first | (rw [s5]; decide) | omega)]
  refine r_tableOutZ (tgt := 46) hX dX2_isSo_1 (by first | with_reducible assumption | decide | omega) (by first | with_reducible assumption | decide | omega) (by decide) (r_aload_n hX dX2_isSo_46 rfl rfl (r_aload_n hX dX2_isSo_47 rfl rfl (r_callV hX (z_X1_isSame _ _ q0 _ _ _ _ h0 r0 q1 _ _ _ _ h1 r1) kv_X2_363 q0 h0 rfl rfl rfl (Nat.le_of_ble_eq_true rfl) ⟨(Nat.le_of_ble_eq_true rfl), (Nat.le_of_ble_eq_true rfl)⟩ ⟨(Nat.le_of_ble_eq_true rfl), (Nat.le_of_ble_eq_true rfl)⟩ dX2_isSo_48 (fun _ _ z => False.elim z) (fun v9 ws9 h7 => ?_))))
  obtain ⟨rfl, hw9⟩ := h7
  subst ws9
  dsimp only [mPush]
  refine r_zret hX hE dX2_isSo_51 (b2i_n _) (Nat.le_of_ble_eq_true rfl) (Nat.le_of_ble_eq_true rfl) ⟨zb ?_, rfl⟩
  unfold zSo
  rw [if_neg (by omega)]
  rw [if_neg (by omega)]
  rw [if_neg (by omega)]
end
-- 66 zdesk
section
/-! The class, exact (rows by a program of this repository). -/
theorem z_X2_refused (ad : Nat → Nat) (cs : ClassId × ClassId × ClassId) (S : mS) (T : mT2) (rest : va_W) : mCt (mTy cs) yX2_refused cX2_refused 1 (some .int) ⟨0, 0, 0, 0⟩ [.ref (ad 0)] (mWd ad cs (mKof S T) rest) (fun v ws' => v = some (.int (iZ (-9))) ∧ ws' = mWd ad cs (mKof (sRf S) T) rest) mNo :=
  c_X2_refused_x ad cs (mKof S T) rest
theorem z_X2_seconds (ad : Nat → Nat) (cs : ClassId × ClassId × ClassId) (S : mS) (T : mT2) (rest : va_W) (hS : sWF S) (a : Int) (ha : rJ a) : mCt (mTy cs) yX2_seconds cX2_seconds 2 (some .int) ⟨7, 1, 6, 103⟩ [.ref (ad 0), .int (iZ a)] (mWd ad cs (mKof S T) rest) (fun v ws' => (0 ≤ a ∧ a < 4) ∧ v = some (.int (iZ (sof S a.toNat))) ∧ ws' = mWd ad cs (mKof S T) rest) (fun E ws' => E = xI ∧ ws' = mWd ad cs (mKof S T) rest ∧ ¬ (0 ≤ a ∧ a < 4)) := by
  refine (c_X2_seconds ad cs (mKof S T) rest (iZ a)).mono (fun v w h => ?_) (fun E w h => ?_)
  · obtain ⟨j, h1, h2, h3, h4⟩ := h
    have h5 := (iZ_in (N := 4) ha (by decide)).mpr ⟨j, h1, h2⟩
    rw [iZ_nI, iZ_inj ha (by omega)] at h2
    exact ⟨h5, by rw [h3, show a.toNat = j by omega]; rfl, h4⟩
  · exact ⟨h.1, h.2.1, fun q => h.2.2 ((vp_in_Zi (N := 4) ha).mpr q)⟩
theorem z_X2_seconds_ok (ad : Nat → Nat) (cs : ClassId × ClassId × ClassId) (S : mS) (T : mT2) (rest : va_W) (hS : sWF S) (a : Int) (j : Nat) (hj : a = (j : Int)) (h4 : j < 4) : mCt (mTy cs) yX2_seconds cX2_seconds 2 (some .int) ⟨1, 0, 0, 21⟩ [.ref (ad 0), .int (iZ a)] (mWd ad cs (mKof S T) rest) (fun v ws' => v = some (.int (iZ (sof S j))) ∧ ws' = mWd ad cs (mKof S T) rest) mNo := by
  rw [hj, ← iZ_nI]
  exact c_X2_seconds_ok ad cs (mKof S T) rest j h4
set_option maxHeartbeats 4000000 in
set_option maxRecDepth 20000 in
theorem z_X2_putNumber (ad : Nat → Nat) (cs : ClassId × ClassId × ClassId) (S : mS) (T : mT2) (rest : va_W) (hS : sWF S) (i : Int) (j : Nat) (hij : i = (j : Int)) (hj : j < 4) (z : Int) (hz : -9000000000000000000 ≤ z ∧ z ≤ 9000000000000000000)  : mCt (mTy cs) yX2_putNumber cX2_putNumber 4 (some .int) ⟨2, 0, 0, 46⟩ [.ref (ad 0), .int (iZ i), .long (lZ z)] (mWd ad cs (mKof S T) rest) (fun v ws' => v = some (.int (iZ (oNum S j z).1)) ∧ ws' = mWd ad cs (mKof (oNum S j z).2 T) rest) mNo := by
  refine mCt.of (by decide +kernel) (Nat.le_of_ble_eq_true rfl) (fun X hX hE => ?_)
  replace hX : mOK X RX2 cX2_putNumber 4 ⟨2, 0, 0, 46⟩ [] (mTy cs) := hX
  refine r_iload_n hX dX2_putNumber_0 rfl rfl (r_aload_n hX dX2_putNumber_1 rfl rfl (r_get hX kf_X2_13 0 rfl rfl dX2_putNumber_2 (r_alen (v := iZ 4) hX 2 1 rfl rfl rfl dX2_putNumber_5 (r_callS hX (z_X2_requireOne_ok _ _ _ 4 (by decide) (by first | with_reducible assumption | decide | omega)) ks_X2_34 rfl rfl (Nat.le_of_ble_eq_true rfl) ⟨(Nat.le_of_ble_eq_true rfl), (Nat.le_of_ble_eq_true rfl)⟩ ⟨(Nat.le_of_ble_eq_true rfl), (Nat.le_of_ble_eq_true rfl)⟩ dX2_putNumber_6 (fun _ _ z => False.elim z) (fun v9 ws9 h1 => ?_)))))
  obtain ⟨rfl, hw9⟩ := h1
  subst ws9
  dsimp only [mPush]
  refine r_lload_n hX dX2_putNumber_9 rfl rfl (r_ldc2Z (z := -1800000000000000000) hX kc_X2_262 (by decide +kernel) dX2_putNumber_10 (r_ldc2Z (z := 1800000000999999999) hX kc_X2_264 (by decide +kernel) dX2_putNumber_13 (r_callS hX (z_X2_isWithin _ _ _ _ _ (by first | with_reducible assumption | decide | omega) (by first | with_reducible assumption | decide | omega) (by first | with_reducible assumption | decide | omega)) ks_X2_48 rfl rfl (Nat.le_of_ble_eq_true rfl) ⟨(Nat.le_of_ble_eq_true rfl), (Nat.le_of_ble_eq_true rfl)⟩ ⟨(Nat.le_of_ble_eq_true rfl), (Nat.le_of_ble_eq_true rfl)⟩ dX2_putNumber_16 (fun _ _ z => False.elim z) (fun v9 ws9 h2 => ?_))))
  obtain ⟨rfl, hw9⟩ := h2
  subst ws9
  dsimp only [mPush]
  refine r_if_neB (tgt := 27) hX dX2_putNumber_19 (by decide) (fun c3 => ?_) (fun c3 => ?_)
  · have c3 := of_decide_eq_true c3
    refine r_aload_n hX dX2_putNumber_27 rfl rfl (r_get hX kf_X2_13 0 rfl rfl dX2_putNumber_28 (r_iload_n hX dX2_putNumber_31 rfl rfl (r_lload_n hX dX2_putNumber_32 rfl rfl (r_lastZ hX 2 1 rfl rfl j (by first | with_reducible assumption | decide | omega) (by first | with_reducible assumption | decide | omega) (by decide) dX2_putNumber_33 (r_eqw (zWd_num (j := j) (z := z)) (r_lload_n hX dX2_putNumber_34 rfl rfl (r_callS hX (z_X2_nanoOf _ _ _ (by first | with_reducible assumption | decide | omega)) ks_X2_92 rfl rfl (Nat.le_of_ble_eq_true rfl) ⟨(Nat.le_of_ble_eq_true rfl), (Nat.le_of_ble_eq_true rfl)⟩ ⟨(Nat.le_of_ble_eq_true rfl), (Nat.le_of_ble_eq_true rfl)⟩ dX2_putNumber_35 (fun _ _ z => False.elim z) (fun v9 ws9 h4 => ?_))))))))
    obtain ⟨rfl, hw9⟩ := h4
    subst ws9
    dsimp only [mPush]
    refine r_iret hX hE dX2_putNumber_38 (Nat.le_of_ble_eq_true rfl) (Nat.le_of_ble_eq_true rfl) ?_
    rw [oNum_y (by assumption)]
    exact ⟨rfl, rfl⟩
  · have c3 := of_decide_eq_false c3
    refine r_aload_n hX dX2_putNumber_22 rfl rfl (r_callV hX (z_X2_refused ad cs S T rest) kv_X2_56 0 rfl rfl rfl rfl (Nat.le_of_ble_eq_true rfl) ⟨(Nat.le_of_ble_eq_true rfl), (Nat.le_of_ble_eq_true rfl)⟩ ⟨(Nat.le_of_ble_eq_true rfl), (Nat.le_of_ble_eq_true rfl)⟩ dX2_putNumber_23 (fun _ _ z => False.elim z) (fun v9 ws9 h5 => ?_))
    obtain ⟨rfl, hw9⟩ := h5
    subst ws9
    dsimp only [mPush]
    refine r_iret hX hE dX2_putNumber_26 (Nat.le_of_ble_eq_true rfl) (Nat.le_of_ble_eq_true rfl) ?_
    rw [oNum_n (by assumption)]
    exact ⟨rfl, rfl⟩
set_option maxHeartbeats 4000000 in
set_option maxRecDepth 20000 in
theorem z_X2_putLocal (ad : Nat → Nat) (cs : ClassId × ClassId × ClassId) (S : mS) (T : mT2) (rest : va_W) (hS : sWF S) (d : Nat) (hd : d < 7) (z n o : Int) (hz : -9000000000000000000 ≤ z ∧ z ≤ 9000000000000000000) (hn : 0 ≤ n ∧ n ≤ 999999999) (ho : -64800 ≤ o ∧ o ≤ 64800)  : mCt (mTy cs) yX2_putLocal cX2_putLocal 6 (some .int) ⟨2, 0, 0, 45⟩ [.ref (ad 0), .ref (ad (d + 5)), .long (lZ z), .int (iZ n), .int (iZ o)] (mWd ad cs (mKof S T) rest) (fun v ws' => v = some (.int (iZ (oLoc S d z n o).1)) ∧ ws' = mWd ad cs (mKof (oLoc S d z n o).2 T) rest) mNo := by
  refine mCt.of (by decide +kernel) (Nat.le_of_ble_eq_true rfl) (fun X hX hE => ?_)
  replace hX : mOK X RX2 cX2_putLocal 6 ⟨2, 0, 0, 45⟩ [] (mTy cs) := hX
  refine r_lload_n hX dX2_putLocal_0 rfl rfl (r_ldc2Z (z := -1893456000) hX kc_X2_266 (by decide +kernel) dX2_putLocal_1 (r_ldc2Z (z := 1924991999) hX kc_X2_268 (by decide +kernel) dX2_putLocal_4 (r_callS hX (z_X2_isWithin _ _ _ _ _ (by first | with_reducible assumption | decide | omega) (by first | with_reducible assumption | decide | omega) (by first | with_reducible assumption | decide | omega)) ks_X2_48 rfl rfl (Nat.le_of_ble_eq_true rfl) ⟨(Nat.le_of_ble_eq_true rfl), (Nat.le_of_ble_eq_true rfl)⟩ ⟨(Nat.le_of_ble_eq_true rfl), (Nat.le_of_ble_eq_true rfl)⟩ dX2_putLocal_7 (fun _ _ z => False.elim z) (fun v9 ws9 h1 => ?_))))
  obtain ⟨rfl, hw9⟩ := h1
  subst ws9
  dsimp only [mPush]
  refine r_if_neB (tgt := 18) hX dX2_putLocal_10 (by decide) (fun c2 => ?_) (fun c2 => ?_)
  · have c2 := of_decide_eq_true c2
    refine r_aload_n hX dX2_putLocal_18 rfl rfl (r_lload_n hX dX2_putLocal_19 rfl rfl (r_iload hX dX2_putLocal_20 rfl (r_iload hX dX2_putLocal_22 rfl (r_callV hX (c_X1_tell _ _ (d + 5) _ _ _ _ (zWd_loc (d := d) hd) _ _ _) kv_X2_270 (d + 5) (zWd_loc (d := d) hd) rfl rfl rfl (Nat.le_of_ble_eq_true rfl) ⟨(Nat.le_of_ble_eq_true rfl), (Nat.le_of_ble_eq_true rfl)⟩ ⟨(Nat.le_of_ble_eq_true rfl), (Nat.le_of_ble_eq_true rfl)⟩ dX2_putLocal_24 (fun _ _ z => False.elim z) (fun v9 ws9 h3 => ?_)))))
    obtain ⟨rfl, hw9⟩ := h3
    subst ws9
    dsimp only [mPush]
    refine r_eqw (zWd_set (d := d) hd) (r_aload_n hX dX2_putLocal_27 rfl rfl (r_callV hX (z_X1_day _ _ (d + 5) _ _ _ _ (zWd_new (d := d) hd) (by first | with_reducible assumption | decide | omega)) kv_X2_274 (d + 5) (zWd_new (d := d) hd) rfl rfl rfl (Nat.le_of_ble_eq_true rfl) ⟨(Nat.le_of_ble_eq_true rfl), (Nat.le_of_ble_eq_true rfl)⟩ ⟨(Nat.le_of_ble_eq_true rfl), (Nat.le_of_ble_eq_true rfl)⟩ dX2_putLocal_28 (fun _ _ z => False.elim z) (fun v9 ws9 h4 => ?_)))
    obtain ⟨rfl, hw9⟩ := h4
    subst ws9
    dsimp only [mPush]
    refine r_iret hX hE dX2_putLocal_31 (Nat.le_of_ble_eq_true rfl) (Nat.le_of_ble_eq_true rfl) ?_
    rw [oLoc_y (by assumption)]
    exact ⟨rfl, rfl⟩
  · have c2 := of_decide_eq_false c2
    refine r_aload_n hX dX2_putLocal_13 rfl rfl (r_callV hX (z_X2_refused ad cs S T rest) kv_X2_56 0 rfl rfl rfl rfl (Nat.le_of_ble_eq_true rfl) ⟨(Nat.le_of_ble_eq_true rfl), (Nat.le_of_ble_eq_true rfl)⟩ ⟨(Nat.le_of_ble_eq_true rfl), (Nat.le_of_ble_eq_true rfl)⟩ dX2_putLocal_14 (fun _ _ z => False.elim z) (fun v9 ws9 h5 => ?_))
    obtain ⟨rfl, hw9⟩ := h5
    subst ws9
    dsimp only [mPush]
    refine r_iret hX hE dX2_putLocal_17 (Nat.le_of_ble_eq_true rfl) (Nat.le_of_ble_eq_true rfl) ?_
    rw [oLoc_n (by assumption)]
    exact ⟨rfl, rfl⟩
set_option maxHeartbeats 4000000 in
set_option maxRecDepth 20000 in
theorem z_X2_putClock (ad : Nat → Nat) (cs : ClassId × ClassId × ClassId) (S : mS) (T : mT2) (rest : va_W) (hS : sWF S) (c : Nat) (hc : c < 3) (z n o : Int) (hz : -9000000000000000000 ≤ z ∧ z ≤ 9000000000000000000) (hn : 0 ≤ n ∧ n ≤ 999999999) (ho : -64800 ≤ o ∧ o ≤ 64800)  : mCt (mTy cs) yX2_putClock cX2_putClock 6 (some .int) ⟨1, 0, 0, 25⟩ [.ref (ad 0), .ref (ad (c + 4 + 5)), .long (lZ z), .int (iZ n), .int (iZ o)] (mWd ad cs (mKof S T) rest) (fun v ws' => v = some (.int (iZ (oClk S c z n o).1)) ∧ ws' = mWd ad cs (mKof (oClk S c z n o).2 T) rest) mNo := by
  refine mCt.of (by decide +kernel) (Nat.le_of_ble_eq_true rfl) (fun X hX hE => ?_)
  replace hX : mOK X RX2 cX2_putClock 6 ⟨1, 0, 0, 25⟩ [] (mTy cs) := hX
  refine r_aload_n hX dX2_putClock_0 rfl rfl (r_lload_n hX dX2_putClock_1 rfl rfl (r_ldc2Z (z := 86400) hX kc_X2_130 (by decide +kernel) dX2_putClock_2 (r_callS hX (z_J9_floorMod _ _ _ _ (by first | with_reducible assumption | decide | omega) (by unfold zD; omega)) ks_X2_277 rfl rfl (Nat.le_of_ble_eq_true rfl) ⟨(Nat.le_of_ble_eq_true rfl), (Nat.le_of_ble_eq_true rfl)⟩ ⟨(Nat.le_of_ble_eq_true rfl), (Nat.le_of_ble_eq_true rfl)⟩ dX2_putClock_5 (fun _ _ z => False.elim z) (fun v9 ws9 h1 => ?_))))
  obtain ⟨rfl, hw9⟩ := h1
  subst ws9
  dsimp only [mPush]
  refine r_iload hX dX2_putClock_8 rfl (r_iload hX dX2_putClock_10 rfl (r_callV hX (c_X1_tell _ _ ((c + 4) + 5) _ _ _ _ (zWd_loc (d := (c + 4)) (by first | with_reducible assumption | decide | omega)) _ _ _) kv_X2_270 ((c + 4) + 5) (zWd_loc (d := (c + 4)) (by first | with_reducible assumption | decide | omega)) rfl rfl rfl (Nat.le_of_ble_eq_true rfl) ⟨(Nat.le_of_ble_eq_true rfl), (Nat.le_of_ble_eq_true rfl)⟩ ⟨(Nat.le_of_ble_eq_true rfl), (Nat.le_of_ble_eq_true rfl)⟩ dX2_putClock_12 (fun _ _ z => False.elim z) (fun v9 ws9 h2 => ?_)))
  obtain ⟨rfl, hw9⟩ := h2
  subst ws9
  dsimp only [mPush]
  refine r_eqw (zWd_set (d := (c + 4)) (by first | with_reducible assumption | decide | omega)) (r_aload_n hX dX2_putClock_15 rfl rfl (r_callV hX (z_X1_momentSecond _ _ ((c + 4) + 5) _ _ _ _ (zWd_new (d := (c + 4)) (by first | with_reducible assumption | decide | omega)) (by first | with_reducible assumption | decide | omega)) kv_X2_169 ((c + 4) + 5) (zWd_new (d := (c + 4)) (by first | with_reducible assumption | decide | omega)) rfl rfl rfl (Nat.le_of_ble_eq_true rfl) ⟨(Nat.le_of_ble_eq_true rfl), (Nat.le_of_ble_eq_true rfl)⟩ ⟨(Nat.le_of_ble_eq_true rfl), (Nat.le_of_ble_eq_true rfl)⟩ dX2_putClock_16 (fun _ _ z => False.elim z) (fun v9 ws9 h3 => ?_)))
  obtain ⟨rfl, hw9⟩ := h3
  subst ws9
  dsimp only [mPush]
  refine r_l2iZ hX dX2_putClock_19 (r_iret hX hE dX2_putClock_20 (Nat.le_of_ble_eq_true rfl) (Nat.le_of_ble_eq_true rfl) ?_)
  exact ⟨rfl, rfl⟩
set_option maxHeartbeats 4000000 in
set_option maxRecDepth 20000 in
theorem z_X2_putDay (ad : Nat → Nat) (cs : ClassId × ClassId × ClassId) (S : mS) (T : mT2) (rest : va_W) (hS : sWF S) (d : Nat) (hd : d < 7) (day : Int) (hday : rJ day)  : mCt (mTy cs) yX2_putDay cX2_putDay 3 (some .int) ⟨3, 0, 0, 70⟩ [.ref (ad 0), .ref (ad (d + 5)), .int (iZ day)] (mWd ad cs (mKof S T) rest) (fun v ws' => v = some (.int (iZ (oLoc S d (day * 86400 + sse S d % 86400) (sna S d) (sow S d)).1)) ∧ ws' = mWd ad cs (mKof (oLoc S d (day * 86400 + sse S d % 86400) (sna S d) (sow S d)).2 T) rest) mNo := by
  refine mCt.of (by decide +kernel) (Nat.le_of_ble_eq_true rfl) (fun X hX hE => ?_)
  replace hX : mOK X RX2 cX2_putDay 3 ⟨3, 0, 0, 70⟩ [] (mTy cs) := hX
  have hr := zrg hS hd
  refine r_aload_n hX dX2_putDay_0 rfl rfl (r_aload_n hX dX2_putDay_1 rfl rfl (r_iload_n hX dX2_putDay_2 rfl rfl (r_i2lZ hX dX2_putDay_3 (by first | with_reducible assumption | decide | omega) (r_ldc2Z (z := 86400) hX kc_X2_130 (by decide +kernel) dX2_putDay_4 (r_lmulZ hX dX2_putDay_7 (r_aload_n hX dX2_putDay_8 rfl rfl (r_callV hX (z_X1_secondOfDay _ _ (d + 5) _ _ _ _ (zWd_loc (d := d) hd) (zrg hS hd)) kv_X2_320 (d + 5) (zWd_loc (d := d) hd) rfl rfl rfl (Nat.le_of_ble_eq_true rfl) ⟨(Nat.le_of_ble_eq_true rfl), (Nat.le_of_ble_eq_true rfl)⟩ ⟨(Nat.le_of_ble_eq_true rfl), (Nat.le_of_ble_eq_true rfl)⟩ dX2_putDay_9 (fun _ _ z => False.elim z) (fun v9 ws9 h1 => ?_))))))))
  obtain ⟨rfl, hw9⟩ := h1
  subst ws9
  dsimp only [mPush]
  refine r_i2lZ hX dX2_putDay_12 (by first | with_reducible assumption | decide | omega) (r_laddZ hX dX2_putDay_13 (r_aload_n hX dX2_putDay_14 rfl rfl (r_getN hX kg_X2_172 (d + 5) (zWd_loc (d := d) hd) rfl dX2_putDay_15 (r_aload_n hX dX2_putDay_18 rfl rfl (r_getN hX kg_X2_158 (d + 5) (zWd_loc (d := d) hd) rfl dX2_putDay_19 (r_callV hX (z_X2_putLocal ad cs S T rest hS d hd _ _ _ (by first | with_reducible assumption | decide | omega) (by first | with_reducible assumption | decide | omega) (by first | with_reducible assumption | decide | omega)) kv_X2_132 0 rfl rfl rfl rfl (Nat.le_of_ble_eq_true rfl) ⟨(Nat.le_of_ble_eq_true rfl), (Nat.le_of_ble_eq_true rfl)⟩ ⟨(Nat.le_of_ble_eq_true rfl), (Nat.le_of_ble_eq_true rfl)⟩ dX2_putDay_22 (fun _ _ z => False.elim z) (fun v9 ws9 h2 => ?_)))))))
  obtain ⟨rfl, hw9⟩ := h2
  subst ws9
  dsimp only [mPush]
  refine r_iret hX hE dX2_putDay_25 (Nat.le_of_ble_eq_true rfl) (Nat.le_of_ble_eq_true rfl) ?_
  exact ⟨rfl, rfl⟩
def zMin (a b : Int) : Int := if a ≤ b then a else b
def oMon (S : mS) (d : Nat) (m : Int) : Int × mS := if 1910 ≤ m / 12 ∧ m / 12 ≤ 2030 then oLoc S d ((FO (m / 12).toNat + DB (m / 12).toNat (m % 12 + 1).toNat + zMin (DOM (sse S d / 86400)) (dm (m / 12).toNat (m % 12 + 1).toNat : Nat) - 1) * 86400 + sse S d % 86400) (sna S d) (sow S d) else (-9, sRf S)
theorem MOy_k {y : Nat} {r : Int} (h0 : DB y 1 ≤ r) (h13 : r < DB y 13) : DB y (MOy y r) ≤ r ∧ r < DB y (MOy y r + 1) := by
  unfold MOy
  by_cases c2 : r < DB y 2
  · rw [if_pos c2]
    exact ⟨h0, c2⟩
  rw [if_neg c2]
  by_cases c3 : r < DB y 3
  · rw [if_pos c3]
    exact ⟨Int.not_lt.mp c2, c3⟩
  rw [if_neg c3]
  by_cases c4 : r < DB y 4
  · rw [if_pos c4]
    exact ⟨Int.not_lt.mp c3, c4⟩
  rw [if_neg c4]
  by_cases c5 : r < DB y 5
  · rw [if_pos c5]
    exact ⟨Int.not_lt.mp c4, c5⟩
  rw [if_neg c5]
  by_cases c6 : r < DB y 6
  · rw [if_pos c6]
    exact ⟨Int.not_lt.mp c5, c6⟩
  rw [if_neg c6]
  by_cases c7 : r < DB y 7
  · rw [if_pos c7]
    exact ⟨Int.not_lt.mp c6, c7⟩
  rw [if_neg c7]
  by_cases c8 : r < DB y 8
  · rw [if_pos c8]
    exact ⟨Int.not_lt.mp c7, c8⟩
  rw [if_neg c8]
  by_cases c9 : r < DB y 9
  · rw [if_pos c9]
    exact ⟨Int.not_lt.mp c8, c9⟩
  rw [if_neg c9]
  by_cases c10 : r < DB y 10
  · rw [if_pos c10]
    exact ⟨Int.not_lt.mp c9, c10⟩
  rw [if_neg c10]
  by_cases c11 : r < DB y 11
  · rw [if_pos c11]
    exact ⟨Int.not_lt.mp c10, c11⟩
  rw [if_neg c11]
  by_cases c12 : r < DB y 12
  · rw [if_pos c12]
    exact ⟨Int.not_lt.mp c11, c12⟩
  rw [if_neg c12]
  exact ⟨Int.not_lt.mp c12, h13⟩
theorem DOM_b {d : Int} (h1 : -21915 ≤ d) (h2 : d ≤ 22279) : 1 ≤ DOM d ∧ DOM d ≤ (dm (YR d) (MO d) : Nat) := by
  have hs := YR_spec h1 h2
  have hn := FO_s (y := YR d) (by omega)
  have e13 := DB_13 (YR d)
  have e1 := DB_1 (YR d)
  have hd : ∀ m : Nat, 1 ≤ m → DB (YR d) (m + 1) = DB (YR d) m + (dm (YR d) m : Int) := fun m h => DB_s h
  have key : DB (YR d) (MO d) ≤ d - FO (YR d) ∧ d - FO (YR d) < DB (YR d) (MO d + 1) := by
    unfold MO
    exact MOy_k (by omega) (by omega)
  have h3 := hd (MO d) (MO_b d).1
  unfold DOM
  omega
set_option maxHeartbeats 4000000 in
set_option maxRecDepth 20000 in
theorem z_J9_min (tys : List (ClassId × FieldType)) (ws : va_W) (a b : Int) (ha : rJ a) (hb : rJ b)  : mCt tys yJ9_min_7cf53 cJ9_min_7cf53 2 (some .int) ⟨0, 0, 0, 0⟩ [.int (iZ a), .int (iZ b)] ws (fun v ws' => v = some (.int (iZ (zMin a b))) ∧ ws' = ws) mNo := by
  refine mCt.of (by decide +kernel) (Nat.le_of_ble_eq_true rfl) (fun X hX hE => ?_)
  replace hX : mOK X RJ9 cJ9_min_7cf53 2 ⟨0, 0, 0, 0⟩ [] tys := hX
  refine r_iload_n hX dJ9_min_7cf53_0 rfl rfl (r_iload_n hX dJ9_min_7cf53_1 rfl rfl (r_icmp_gtZ (tgt := 9) hX dJ9_min_7cf53_2 (by decide) (by first | with_reducible assumption | decide | omega) (by first | with_reducible assumption | decide | omega) (fun c1 => ?_) (fun c1 => ?_)))
  · refine r_iload_n hX dJ9_min_7cf53_9 rfl rfl (r_iret hX hE dJ9_min_7cf53_10 (Nat.le_of_ble_eq_true rfl) (Nat.le_of_ble_eq_true rfl) ⟨zi ?_, rfl⟩)
    unfold zMin
    first | exact (if_pos (by omega)).symm | exact (if_neg (by omega)).symm | exact (if_pos (by assumption)).symm | exact (if_neg (by assumption)).symm
  · refine r_iload_n hX dJ9_min_7cf53_5 rfl rfl (r_goto (tgt := 10) hX dJ9_min_7cf53_6 (by decide) (r_iret hX hE dJ9_min_7cf53_10 (Nat.le_of_ble_eq_true rfl) (Nat.le_of_ble_eq_true rfl) ⟨zi ?_, rfl⟩))
    unfold zMin
    first | exact (if_pos (by omega)).symm | exact (if_neg (by omega)).symm | exact (if_pos (by assumption)).symm | exact (if_neg (by assumption)).symm
end
-- 67 zset
section
/-! The class, exact (rows by a program of this repository). -/
set_option maxHeartbeats 4000000 in
set_option maxRecDepth 20000 in
theorem z_X2_putMonths (ad : Nat → Nat) (cs : ClassId × ClassId × ClassId) (S : mS) (T : mT2) (rest : va_W) (hS : sWF S) (d : Nat) (hd : d < 7) (hd4 : d < 4) (m : Int) (hm : -9000000000000000000 ≤ m ∧ m ≤ 9000000000000000000)  : mCt (mTy cs) yX2_putMonths cX2_putMonths 9 (some .int) ⟨4, 0, 0, 92⟩ [.ref (ad 0), .ref (ad (d + 5)), .long (lZ m)] (mWd ad cs (mKof S T) rest) (fun v ws' => v = some (.int (iZ (oMon S d m).1)) ∧ ws' = mWd ad cs (mKof (oMon S d m).2 T) rest) mNo := by
  refine mCt.of (by decide +kernel) (Nat.le_of_ble_eq_true rfl) (fun X hX hE => ?_)
  replace hX : mOK X RX2 cX2_putMonths 9 ⟨4, 0, 0, 92⟩ [] (mTy cs) := hX
  have hr := zrg hS hd
  have hse := hS.2.2.2.1 d hd4
  have hsd : -21915 ≤ sse S d / 86400 ∧ sse S d / 86400 ≤ 22279 := by omega
  have hdom := DOM_b hsd.1 hsd.2
  have hdm := dm_b (YR (sse S d / 86400)) (MO (sse S d / 86400))
  refine r_lload_n hX dX2_putMonths_0 rfl rfl (r_ldc2Z (z := 12) hX kc_X2_140 (by decide +kernel) dX2_putMonths_1 (r_callS hX (z_J9_floorDiv _ _ _ _ (by first | with_reducible assumption | decide | omega) (by unfold zD; omega)) ks_X2_100 rfl rfl (Nat.le_of_ble_eq_true rfl) ⟨(Nat.le_of_ble_eq_true rfl), (Nat.le_of_ble_eq_true rfl)⟩ ⟨(Nat.le_of_ble_eq_true rfl), (Nat.le_of_ble_eq_true rfl)⟩ dX2_putMonths_4 (fun _ _ z => False.elim z) (fun v9 ws9 h1 => ?_)))
  obtain ⟨rfl, hw9⟩ := h1
  subst ws9
  dsimp only [mPush]
  refine r_lstore hX dX2_putMonths_7 (by decide) rfl (r_lload hX dX2_putMonths_9 rfl (r_ldc2Z (z := 1910) hX kc_X2_116 (by decide +kernel) dX2_putMonths_11 (r_ldc2Z (z := 2030) hX kc_X2_118 (by decide +kernel) dX2_putMonths_14 (r_callS hX (z_X2_isWithin _ _ _ _ _ (by first | with_reducible assumption | decide | omega) (by first | with_reducible assumption | decide | omega) (by first | with_reducible assumption | decide | omega)) ks_X2_48 rfl rfl (Nat.le_of_ble_eq_true rfl) ⟨(Nat.le_of_ble_eq_true rfl), (Nat.le_of_ble_eq_true rfl)⟩ ⟨(Nat.le_of_ble_eq_true rfl), (Nat.le_of_ble_eq_true rfl)⟩ dX2_putMonths_17 (fun _ _ z => False.elim z) (fun v9 ws9 h2 => ?_)))))
  obtain ⟨rfl, hw9⟩ := h2
  subst ws9
  dsimp only [mPush]
  refine r_if_neB (tgt := 28) hX dX2_putMonths_20 (by decide) (fun c3 => ?_) (fun c3 => ?_)
  · have c3 := of_decide_eq_true c3
    refine r_lload_n hX dX2_putMonths_28 rfl rfl (r_ldc2Z (z := 12) hX kc_X2_140 (by decide +kernel) dX2_putMonths_29 (r_callS hX (z_J9_floorMod _ _ _ _ (by first | with_reducible assumption | decide | omega) (by unfold zD; omega)) ks_X2_277 rfl rfl (Nat.le_of_ble_eq_true rfl) ⟨(Nat.le_of_ble_eq_true rfl), (Nat.le_of_ble_eq_true rfl)⟩ ⟨(Nat.le_of_ble_eq_true rfl), (Nat.le_of_ble_eq_true rfl)⟩ dX2_putMonths_32 (fun _ _ z => False.elim z) (fun v9 ws9 h4 => ?_)))
    obtain ⟨rfl, hw9⟩ := h4
    subst ws9
    dsimp only [mPush]
    refine r_l2iZ hX dX2_putMonths_35 (r_iconstZ hX dX2_putMonths_36 (r_iaddZ hX dX2_putMonths_37 (r_istore hX dX2_putMonths_38 (by decide) rfl (r_lload hX dX2_putMonths_40 rfl (r_l2iZ hX dX2_putMonths_42 (r_iload hX dX2_putMonths_43 rfl (r_callS hX (z_X0_lengthOfMonth _ _ _ ((m / 12)).toNat (by first | with_reducible assumption | decide | omega) (by first | with_reducible assumption | decide | omega) _ ((m % 12) + 1).toNat (by first | with_reducible assumption | decide | omega) (by first | with_reducible assumption | decide | omega)) ks_X2_308 rfl rfl (Nat.le_of_ble_eq_true rfl) ⟨(Nat.le_of_ble_eq_true rfl), (Nat.le_of_ble_eq_true rfl)⟩ ⟨(Nat.le_of_ble_eq_true rfl), (Nat.le_of_ble_eq_true rfl)⟩ dX2_putMonths_45 (fun _ _ z => False.elim z) (fun v9 ws9 h5 => ?_))))))))
    obtain ⟨rfl, hw9⟩ := h5
    subst ws9
    dsimp only [mPush]
    refine r_istore hX dX2_putMonths_48 (by decide) rfl (r_aload_n hX dX2_putMonths_50 rfl rfl (r_callV hX (z_X1_day _ _ (d + 5) _ _ _ _ (zWd_loc (d := d) hd) (zrg hS hd)) kv_X2_274 (d + 5) (zWd_loc (d := d) hd) rfl rfl rfl (Nat.le_of_ble_eq_true rfl) ⟨(Nat.le_of_ble_eq_true rfl), (Nat.le_of_ble_eq_true rfl)⟩ ⟨(Nat.le_of_ble_eq_true rfl), (Nat.le_of_ble_eq_true rfl)⟩ dX2_putMonths_51 (fun _ _ z => False.elim z) (fun v9 ws9 h6 => ?_)))
    obtain ⟨rfl, hw9⟩ := h6
    subst ws9
    dsimp only [mPush]
    refine r_callS hX (z_X0_dayOfMonth _ _ _ (by first | with_reducible assumption | decide | omega)) ks_X2_311 rfl rfl (Nat.le_of_ble_eq_true rfl) ⟨(Nat.le_of_ble_eq_true rfl), (Nat.le_of_ble_eq_true rfl)⟩ ⟨(Nat.le_of_ble_eq_true rfl), (Nat.le_of_ble_eq_true rfl)⟩ dX2_putMonths_54 (fun _ _ z => False.elim z) (fun v9 ws9 h7 => ?_)
    obtain ⟨rfl, hw9⟩ := h7
    subst ws9
    dsimp only [mPush]
    refine r_iload hX dX2_putMonths_57 rfl ?_
    have hdm2 := dm_b (m / 12).toNat (m % 12 + 1).toNat
    refine r_callS hX (z_J9_min _ _ _ _ (by first | with_reducible assumption | decide | omega) (by first | with_reducible assumption | decide | omega)) ks_X2_314 rfl rfl (Nat.le_of_ble_eq_true rfl) ⟨(Nat.le_of_ble_eq_true rfl), (Nat.le_of_ble_eq_true rfl)⟩ ⟨(Nat.le_of_ble_eq_true rfl), (Nat.le_of_ble_eq_true rfl)⟩ dX2_putMonths_59 (fun _ _ z => False.elim z) (fun v9 ws9 h8 => ?_)
    obtain ⟨rfl, hw9⟩ := h8
    subst ws9
    dsimp only [mPush]
    refine r_istore hX dX2_putMonths_62 (by decide) rfl (r_aload_n hX dX2_putMonths_64 rfl rfl (r_aload_n hX dX2_putMonths_65 rfl rfl (r_lload hX dX2_putMonths_66 rfl (r_l2iZ hX dX2_putMonths_68 (r_iload hX dX2_putMonths_69 rfl (r_iload hX dX2_putMonths_71 rfl (r_callS hX (z_X0_dayOf _ _ _ ((m / 12)).toNat (by first | with_reducible assumption | decide | omega) (by first | with_reducible assumption | decide | omega) _ ((m % 12) + 1).toNat (by first | with_reducible assumption | decide | omega) (by first | with_reducible assumption | decide | omega) _) ks_X2_126 rfl rfl (Nat.le_of_ble_eq_true rfl) ⟨(Nat.le_of_ble_eq_true rfl), (Nat.le_of_ble_eq_true rfl)⟩ ⟨(Nat.le_of_ble_eq_true rfl), (Nat.le_of_ble_eq_true rfl)⟩ dX2_putMonths_73 (fun _ _ z => False.elim z) (fun v9 ws9 h9 => ?_))))))))
    obtain ⟨rfl, hw9⟩ := h9
    subst ws9
    dsimp only [mPush]
    have hfo := FO_b (y := (m / 12).toNat) (by omega)
    have hdb := DB_b (y := (m / 12).toNat) (m := (m % 12 + 1).toNat) (by omega)
    have hmin : 1 ≤ zMin (DOM (sse S d / 86400)) (dm (m / 12).toNat (m % 12 + 1).toNat : Nat) ∧ zMin (DOM (sse S d / 86400)) (dm (m / 12).toNat (m % 12 + 1).toNat : Nat) ≤ 31 := by unfold zMin; split <;> omega
    refine r_callV hX (z_X2_putDay ad cs S T rest hS d hd _ (by first | with_reducible assumption | decide | omega)) kv_X2_317 0 rfl rfl rfl rfl (Nat.le_of_ble_eq_true rfl) ⟨(Nat.le_of_ble_eq_true rfl), (Nat.le_of_ble_eq_true rfl)⟩ ⟨(Nat.le_of_ble_eq_true rfl), (Nat.le_of_ble_eq_true rfl)⟩ dX2_putMonths_76 (fun _ _ z => False.elim z) (fun v9 ws9 h10 => ?_)
    obtain ⟨rfl, hw9⟩ := h10
    subst ws9
    dsimp only [mPush]
    refine r_iret hX hE dX2_putMonths_79 (Nat.le_of_ble_eq_true rfl) (Nat.le_of_ble_eq_true rfl) ?_
    unfold oMon
    rw [if_pos (by assumption)]
    exact ⟨rfl, rfl⟩
  · have c3 := of_decide_eq_false c3
    refine r_aload_n hX dX2_putMonths_23 rfl rfl (r_callV hX (z_X2_refused ad cs S T rest) kv_X2_56 0 rfl rfl rfl rfl (Nat.le_of_ble_eq_true rfl) ⟨(Nat.le_of_ble_eq_true rfl), (Nat.le_of_ble_eq_true rfl)⟩ ⟨(Nat.le_of_ble_eq_true rfl), (Nat.le_of_ble_eq_true rfl)⟩ dX2_putMonths_24 (fun _ _ z => False.elim z) (fun v9 ws9 h11 => ?_))
    obtain ⟨rfl, hw9⟩ := h11
    subst ws9
    dsimp only [mPush]
    refine r_iret hX hE dX2_putMonths_27 (Nat.le_of_ble_eq_true rfl) (Nat.le_of_ble_eq_true rfl) ?_
    unfold oMon
    rw [if_neg (by assumption)]
    exact ⟨rfl, rfl⟩
def oPart (S : mS) (d : Nat) (num most now len : Int) : Int × mS := if 0 ≤ num ∧ num ≤ most then oLoc S d (sse S d + (num - now) * len) (sna S d) (sow S d) else (-9, sRf S)
def oTime (S : mS) (d : Nat) (f num : Int) : Int × mS := if f = 4 then oPart S d num 23 (sse S d % 86400 / 3600) 3600 else if f = 5 then oPart S d num 59 (sse S d % 86400 / 60 % 60) 60 else if f = 6 then oPart S d num 59 (sse S d % 86400 % 60) 1 else if 0 ≤ num ∧ num ≤ 999999999 then oLoc S d (sse S d) num (sow S d) else (-9, sRf S)
def oDay (S : mS) (d : Nat) (f num : Int) : Int × mS := if f = 0 then oMon S d (num * 12 + (MO (sse S d / 86400) : Nat) - 1) else if f = 1 then (if 1 ≤ num ∧ num ≤ 12 then oMon S d ((YR (sse S d / 86400) : Nat) * 12 + num - 1) else (-9, sRf S)) else if f = 2 then (if 1 ≤ num ∧ num ≤ (dm (YR (sse S d / 86400)) (MO (sse S d / 86400)) : Nat) then oLoc S d ((FO (YR (sse S d / 86400)) + DB (YR (sse S d / 86400)) (MO (sse S d / 86400)) + num - 1) * 86400 + sse S d % 86400) (sna S d) (sow S d) else (-9, sRf S)) else (if 1 ≤ num ∧ num ≤ (yl (YR (sse S d / 86400)) : Nat) then oLoc S d ((FO (YR (sse S d / 86400)) + num - 1) * 86400 + sse S d % 86400) (sna S d) (sow S d) else (-9, sRf S))
set_option maxHeartbeats 4000000 in
set_option maxRecDepth 20000 in
theorem z_X2_setPart (ad : Nat → Nat) (cs : ClassId × ClassId × ClassId) (S : mS) (T : mT2) (rest : va_W) (hS : sWF S) (d : Nat) (hd : d < 7) (hd4 : d < 4) (num : Int) (hnum : rJ num) (most now : Int) (hmost : 0 ≤ most ∧ most ≤ 59) (hnow : 0 ≤ now ∧ now ≤ 59) (len : Int) (hlen : len = 3600 ∨ len = 60 ∨ len = 1)  : mCt (mTy cs) yX2_setPart cX2_setPart 7 (some .int) ⟨3, 0, 0, 70⟩ [.ref (ad 0), .ref (ad (d + 5)), .int (iZ num), .int (iZ most), .int (iZ now), .long (lZ len)] (mWd ad cs (mKof S T) rest) (fun v ws' => v = some (.int (iZ (oPart S d num most now len).1)) ∧ ws' = mWd ad cs (mKof (oPart S d num most now len).2 T) rest) mNo := by
  refine mCt.of (by decide +kernel) (Nat.le_of_ble_eq_true rfl) (fun X hX hE => ?_)
  replace hX : mOK X RX2 cX2_setPart 7 ⟨3, 0, 0, 70⟩ [] (mTy cs) := hX
  have hr := zrg hS hd
  refine r_iload_n hX dX2_setPart_0 rfl rfl (r_i2lZ hX dX2_setPart_1 (by first | with_reducible assumption | decide | omega) (r_lconstZ (v := 0) hX dX2_setPart_2 rfl (r_iload_n hX dX2_setPart_3 rfl rfl (r_i2lZ hX dX2_setPart_4 (by first | with_reducible assumption | decide | omega) (r_callS hX (z_X2_isWithin _ _ _ _ _ (by first | with_reducible assumption | decide | omega) (by first | with_reducible assumption | decide | omega) (by first | with_reducible assumption | decide | omega)) ks_X2_48 rfl rfl (Nat.le_of_ble_eq_true rfl) ⟨(Nat.le_of_ble_eq_true rfl), (Nat.le_of_ble_eq_true rfl)⟩ ⟨(Nat.le_of_ble_eq_true rfl), (Nat.le_of_ble_eq_true rfl)⟩ dX2_setPart_5 (fun _ _ z => False.elim z) (fun v9 ws9 h1 => ?_))))))
  obtain ⟨rfl, hw9⟩ := h1
  subst ws9
  dsimp only [mPush]
  refine r_if_neB (tgt := 16) hX dX2_setPart_8 (by decide) (fun c2 => ?_) (fun c2 => ?_)
  · have c2 := of_decide_eq_true c2
    refine r_aload_n hX dX2_setPart_16 rfl rfl (r_aload_n hX dX2_setPart_17 rfl rfl (r_aload_n hX dX2_setPart_18 rfl rfl (r_getN hX kg_X2_146 (d + 5) (zWd_loc (d := d) hd) rfl dX2_setPart_19 (r_iload_n hX dX2_setPart_22 rfl rfl (r_iload hX dX2_setPart_23 rfl ?_)))))
    have hmul : -300000 ≤ (num - now) * len ∧ (num - now) * len ≤ 300000 := by rcases hlen with rfl | rfl | rfl <;> omega
    refine r_isubZ hX dX2_setPart_25 (r_i2lZ hX dX2_setPart_26 (by first | with_reducible assumption | decide | omega) (r_lload hX dX2_setPart_27 rfl (r_lmulZ hX dX2_setPart_29 (r_laddZ hX dX2_setPart_30 (r_aload_n hX dX2_setPart_31 rfl rfl (r_getN hX kg_X2_172 (d + 5) (zWd_loc (d := d) hd) rfl dX2_setPart_32 (r_aload_n hX dX2_setPart_35 rfl rfl ?_)))))))
    refine r_getN hX kg_X2_158 (d + 5) (zWd_loc (d := d) hd) rfl dX2_setPart_36 (r_callV hX (z_X2_putLocal ad cs S T rest hS d hd _ _ _ (by first | with_reducible assumption | decide | omega) (by first | with_reducible assumption | decide | omega) (by first | with_reducible assumption | decide | omega)) kv_X2_132 0 rfl rfl rfl rfl (Nat.le_of_ble_eq_true rfl) ⟨(Nat.le_of_ble_eq_true rfl), (Nat.le_of_ble_eq_true rfl)⟩ ⟨(Nat.le_of_ble_eq_true rfl), (Nat.le_of_ble_eq_true rfl)⟩ dX2_setPart_39 (fun _ _ z => False.elim z) (fun v9 ws9 h3 => ?_))
    obtain ⟨rfl, hw9⟩ := h3
    subst ws9
    dsimp only [mPush]
    refine r_iret hX hE dX2_setPart_42 (Nat.le_of_ble_eq_true rfl) (Nat.le_of_ble_eq_true rfl) ?_
    unfold oPart
    rw [if_pos (by assumption)]
    exact ⟨rfl, rfl⟩
  · have c2 := of_decide_eq_false c2
    refine r_aload_n hX dX2_setPart_11 rfl rfl (r_callV hX (z_X2_refused ad cs S T rest) kv_X2_56 0 rfl rfl rfl rfl (Nat.le_of_ble_eq_true rfl) ⟨(Nat.le_of_ble_eq_true rfl), (Nat.le_of_ble_eq_true rfl)⟩ ⟨(Nat.le_of_ble_eq_true rfl), (Nat.le_of_ble_eq_true rfl)⟩ dX2_setPart_12 (fun _ _ z => False.elim z) (fun v9 ws9 h4 => ?_))
    obtain ⟨rfl, hw9⟩ := h4
    subst ws9
    dsimp only [mPush]
    refine r_iret hX hE dX2_setPart_15 (Nat.le_of_ble_eq_true rfl) (Nat.le_of_ble_eq_true rfl) ?_
    unfold oPart
    rw [if_neg (by assumption)]
    exact ⟨rfl, rfl⟩
set_option maxHeartbeats 4000000 in
set_option maxRecDepth 20000 in
theorem z_X2_setOfTime (ad : Nat → Nat) (cs : ClassId × ClassId × ClassId) (S : mS) (T : mT2) (rest : va_W) (hS : sWF S) (d : Nat) (hd : d < 7) (hd4 : d < 4) (f : Int) (hf : 4 ≤ f ∧ f ≤ 7) (num : Int) (hnum : rJ num)  : mCt (mTy cs) yX2_setOfTime cX2_setOfTime 4 (some .int) ⟨4, 0, 0, 96⟩ [.ref (ad 0), .ref (ad (d + 5)), .int (iZ f), .int (iZ num)] (mWd ad cs (mKof S T) rest) (fun v ws' => v = some (.int (iZ (oTime S d f num).1)) ∧ ws' = mWd ad cs (mKof (oTime S d f num).2 T) rest) mNo := by
  refine mCt.of (by decide +kernel) (Nat.le_of_ble_eq_true rfl) (fun X hX hE => ?_)
  replace hX : mOK X RX2 cX2_setOfTime 4 ⟨4, 0, 0, 96⟩ [] (mTy cs) := hX
  have hr := zrg hS hd
  refine r_iload_n hX dX2_setOfTime_0 rfl rfl ?_
  by_cases s1 : f = 4
  · refine r_tableInZ (z := 4) (off := 27) (tgt := 28) hX dX2_setOfTime_1 s1 (by decide) (by decide) (by decide) rfl (by decide) (r_aload_n hX dX2_setOfTime_28 rfl rfl (r_aload_n hX dX2_setOfTime_29 rfl rfl (r_iload_n hX dX2_setOfTime_30 rfl rfl (r_bipushZ hX dX2_setOfTime_31 (by decide +kernel) (r_aload_n hX dX2_setOfTime_33 rfl rfl (r_callV hX (z_X1_hour _ _ (d + 5) _ _ _ _ (zWd_loc (d := d) hd) (zrg hS hd)) kv_X2_335 (d + 5) (zWd_loc (d := d) hd) rfl rfl rfl (Nat.le_of_ble_eq_true rfl) ⟨(Nat.le_of_ble_eq_true rfl), (Nat.le_of_ble_eq_true rfl)⟩ ⟨(Nat.le_of_ble_eq_true rfl), (Nat.le_of_ble_eq_true rfl)⟩ dX2_setOfTime_34 (fun _ _ z => False.elim z) (fun v9 ws9 h2 => ?_)))))))
    obtain ⟨rfl, hw9⟩ := h2
    subst ws9
    dsimp only [mPush]
    refine r_ldc2Z (z := 3600) hX kc_X2_304 (by decide +kernel) dX2_setOfTime_37 (r_callV hX (z_X2_setPart ad cs S T rest hS d hd (by first | with_reducible assumption | decide | omega) _ (by first | with_reducible assumption | decide | omega) _ _ (by first | with_reducible assumption | decide | omega) (by first | with_reducible assumption | decide | omega) _ (by first | with_reducible assumption | decide | omega)) kv_X2_338 0 rfl rfl rfl rfl (Nat.le_of_ble_eq_true rfl) ⟨(Nat.le_of_ble_eq_true rfl), (Nat.le_of_ble_eq_true rfl)⟩ ⟨(Nat.le_of_ble_eq_true rfl), (Nat.le_of_ble_eq_true rfl)⟩ dX2_setOfTime_40 (fun _ _ z => False.elim z) (fun v9 ws9 h3 => ?_))
    obtain ⟨rfl, hw9⟩ := h3
    subst ws9
    dsimp only [mPush]
    refine r_iret hX hE dX2_setOfTime_43 (Nat.le_of_ble_eq_true rfl) (Nat.le_of_ble_eq_true rfl) ?_
    unfold oTime
    rw [if_pos (by first | (rw [s1]; decide) | omega)]
    exact ⟨rfl, rfl⟩
  by_cases s4 : f = 5
  · refine r_tableInZ (z := 5) (off := 43) (tgt := 44) hX dX2_setOfTime_1 s4 (by decide) (by decide) (by decide) rfl (by decide) (r_aload_n hX dX2_setOfTime_44 rfl rfl (r_aload_n hX dX2_setOfTime_45 rfl rfl (r_iload_n hX dX2_setOfTime_46 rfl rfl (r_bipushZ hX dX2_setOfTime_47 (by decide +kernel) (r_aload_n hX dX2_setOfTime_49 rfl rfl (r_callV hX (z_X1_minute _ _ (d + 5) _ _ _ _ (zWd_loc (d := d) hd) (zrg hS hd)) kv_X2_342 (d + 5) (zWd_loc (d := d) hd) rfl rfl rfl (Nat.le_of_ble_eq_true rfl) ⟨(Nat.le_of_ble_eq_true rfl), (Nat.le_of_ble_eq_true rfl)⟩ ⟨(Nat.le_of_ble_eq_true rfl), (Nat.le_of_ble_eq_true rfl)⟩ dX2_setOfTime_50 (fun _ _ z => False.elim z) (fun v9 ws9 h5 => ?_)))))))
    obtain ⟨rfl, hw9⟩ := h5
    subst ws9
    dsimp only [mPush]
    refine r_ldc2Z (z := 60) hX kc_X2_306 (by decide +kernel) dX2_setOfTime_53 (r_callV hX (z_X2_setPart ad cs S T rest hS d hd (by first | with_reducible assumption | decide | omega) _ (by first | with_reducible assumption | decide | omega) _ _ (by first | with_reducible assumption | decide | omega) (by first | with_reducible assumption | decide | omega) _ (by first | with_reducible assumption | decide | omega)) kv_X2_338 0 rfl rfl rfl rfl (Nat.le_of_ble_eq_true rfl) ⟨(Nat.le_of_ble_eq_true rfl), (Nat.le_of_ble_eq_true rfl)⟩ ⟨(Nat.le_of_ble_eq_true rfl), (Nat.le_of_ble_eq_true rfl)⟩ dX2_setOfTime_56 (fun _ _ z => False.elim z) (fun v9 ws9 h6 => ?_))
    obtain ⟨rfl, hw9⟩ := h6
    subst ws9
    dsimp only [mPush]
    refine r_iret hX hE dX2_setOfTime_59 (Nat.le_of_ble_eq_true rfl) (Nat.le_of_ble_eq_true rfl) ?_
    unfold oTime
    rw [if_neg (by first | (rw [s4]; decide) | omega)]
    rw [if_pos (by first | (rw [s4]; decide) | omega)]
    exact ⟨rfl, rfl⟩
  by_cases s7 : f = 6
  · refine r_tableInZ (z := 6) (off := 59) (tgt := 60) hX dX2_setOfTime_1 s7 (by decide) (by decide) (by decide) rfl (by decide) (r_aload_n hX dX2_setOfTime_60 rfl rfl (r_aload_n hX dX2_setOfTime_61 rfl rfl (r_iload_n hX dX2_setOfTime_62 rfl rfl (r_bipushZ hX dX2_setOfTime_63 (by decide +kernel) (r_aload_n hX dX2_setOfTime_65 rfl rfl (r_callV hX (z_X1_secondOfMinute _ _ (d + 5) _ _ _ _ (zWd_loc (d := d) hd) (zrg hS hd)) kv_X2_345 (d + 5) (zWd_loc (d := d) hd) rfl rfl rfl (Nat.le_of_ble_eq_true rfl) ⟨(Nat.le_of_ble_eq_true rfl), (Nat.le_of_ble_eq_true rfl)⟩ ⟨(Nat.le_of_ble_eq_true rfl), (Nat.le_of_ble_eq_true rfl)⟩ dX2_setOfTime_66 (fun _ _ z => False.elim z) (fun v9 ws9 h8 => ?_)))))))
    obtain ⟨rfl, hw9⟩ := h8
    subst ws9
    dsimp only [mPush]
    refine r_lconstZ (v := 1) hX dX2_setOfTime_69 rfl (r_callV hX (z_X2_setPart ad cs S T rest hS d hd (by first | with_reducible assumption | decide | omega) _ (by first | with_reducible assumption | decide | omega) _ _ (by first | with_reducible assumption | decide | omega) (by first | with_reducible assumption | decide | omega) _ (by first | with_reducible assumption | decide | omega)) kv_X2_338 0 rfl rfl rfl rfl (Nat.le_of_ble_eq_true rfl) ⟨(Nat.le_of_ble_eq_true rfl), (Nat.le_of_ble_eq_true rfl)⟩ ⟨(Nat.le_of_ble_eq_true rfl), (Nat.le_of_ble_eq_true rfl)⟩ dX2_setOfTime_70 (fun _ _ z => False.elim z) (fun v9 ws9 h9 => ?_))
    obtain ⟨rfl, hw9⟩ := h9
    subst ws9
    dsimp only [mPush]
    refine r_iret hX hE dX2_setOfTime_73 (Nat.le_of_ble_eq_true rfl) (Nat.le_of_ble_eq_true rfl) ?_
    unfold oTime
    rw [if_neg (by first | (rw [s7]; decide) | omega)]
    rw [if_neg (by first | (rw [s7]; decide) | omega)]
    rw [if_pos (by first | (rw [s7]; decide) | omega)]
    exact ⟨rfl, rfl⟩
  refine r_tableOutZ (tgt := 74) hX dX2_setOfTime_1 (by first | with_reducible assumption | decide | omega) (by first | with_reducible assumption | decide | omega) (by decide) (r_iload_n hX dX2_setOfTime_74 rfl rfl (r_i2lZ hX dX2_setOfTime_75 (by first | with_reducible assumption | decide | omega) (r_lconstZ (v := 0) hX dX2_setOfTime_76 rfl (r_ldc2Z (z := 999999999) hX kc_X2_348 (by decide +kernel) dX2_setOfTime_77 (r_callS hX (z_X2_isWithin _ _ _ _ _ (by first | with_reducible assumption | decide | omega) (by first | with_reducible assumption | decide | omega) (by first | with_reducible assumption | decide | omega)) ks_X2_48 rfl rfl (Nat.le_of_ble_eq_true rfl) ⟨(Nat.le_of_ble_eq_true rfl), (Nat.le_of_ble_eq_true rfl)⟩ ⟨(Nat.le_of_ble_eq_true rfl), (Nat.le_of_ble_eq_true rfl)⟩ dX2_setOfTime_80 (fun _ _ z => False.elim z) (fun v9 ws9 h10 => ?_))))))
  obtain ⟨rfl, hw9⟩ := h10
  subst ws9
  dsimp only [mPush]
  refine r_if_eqB (tgt := 103) hX dX2_setOfTime_83 (by decide) (fun c11 => ?_) (fun c11 => ?_)
  · have c11 := of_decide_eq_false c11
    refine r_aload_n hX dX2_setOfTime_103 rfl rfl (r_callV hX (z_X2_refused ad cs S T rest) kv_X2_56 0 rfl rfl rfl rfl (Nat.le_of_ble_eq_true rfl) ⟨(Nat.le_of_ble_eq_true rfl), (Nat.le_of_ble_eq_true rfl)⟩ ⟨(Nat.le_of_ble_eq_true rfl), (Nat.le_of_ble_eq_true rfl)⟩ dX2_setOfTime_104 (fun _ _ z => False.elim z) (fun v9 ws9 h12 => ?_))
    obtain ⟨rfl, hw9⟩ := h12
    subst ws9
    dsimp only [mPush]
    refine r_iret hX hE dX2_setOfTime_107 (Nat.le_of_ble_eq_true rfl) (Nat.le_of_ble_eq_true rfl) ?_
    unfold oTime
    rw [if_neg (by omega)]
    rw [if_neg (by omega)]
    rw [if_neg (by omega)]
    rw [if_neg (by assumption)]
    exact ⟨rfl, rfl⟩
  · have c11 := of_decide_eq_true c11
    refine r_aload_n hX dX2_setOfTime_86 rfl rfl (r_aload_n hX dX2_setOfTime_87 rfl rfl (r_aload_n hX dX2_setOfTime_88 rfl rfl (r_getN hX kg_X2_146 (d + 5) (zWd_loc (d := d) hd) rfl dX2_setOfTime_89 (r_iload_n hX dX2_setOfTime_92 rfl rfl (r_aload_n hX dX2_setOfTime_93 rfl rfl (r_getN hX kg_X2_158 (d + 5) (zWd_loc (d := d) hd) rfl dX2_setOfTime_94 (r_callV hX (z_X2_putLocal ad cs S T rest hS d hd _ _ _ (by first | with_reducible assumption | decide | omega) (by first | with_reducible assumption | decide | omega) (by first | with_reducible assumption | decide | omega)) kv_X2_132 0 rfl rfl rfl rfl (Nat.le_of_ble_eq_true rfl) ⟨(Nat.le_of_ble_eq_true rfl), (Nat.le_of_ble_eq_true rfl)⟩ ⟨(Nat.le_of_ble_eq_true rfl), (Nat.le_of_ble_eq_true rfl)⟩ dX2_setOfTime_97 (fun _ _ z => False.elim z) (fun v9 ws9 h13 => ?_))))))))
    obtain ⟨rfl, hw9⟩ := h13
    subst ws9
    dsimp only [mPush]
    refine r_goto (tgt := 107) hX dX2_setOfTime_100 (by decide) (r_iret hX hE dX2_setOfTime_107 (Nat.le_of_ble_eq_true rfl) (Nat.le_of_ble_eq_true rfl) ?_)
    unfold oTime
    rw [if_neg (by omega)]
    rw [if_neg (by omega)]
    rw [if_neg (by omega)]
    rw [if_pos (by assumption)]
    exact ⟨rfl, rfl⟩
set_option maxHeartbeats 4000000 in
set_option maxRecDepth 20000 in
theorem z_X2_setOfDay (ad : Nat → Nat) (cs : ClassId × ClassId × ClassId) (S : mS) (T : mT2) (rest : va_W) (hS : sWF S) (d : Nat) (hd : d < 7) (hd4 : d < 4) (f : Int) (hf : 0 ≤ f ∧ f ≤ 3) (num : Int) (hnum : rJ num)  : mCt (mTy cs) yX2_setOfDay cX2_setOfDay 6 (some .int) ⟨5, 0, 0, 120⟩ [.ref (ad 0), .ref (ad (d + 5)), .int (iZ f), .int (iZ num)] (mWd ad cs (mKof S T) rest) (fun v ws' => v = some (.int (iZ (oDay S d f num).1)) ∧ ws' = mWd ad cs (mKof (oDay S d f num).2 T) rest) mNo := by
  refine mCt.of (by decide +kernel) (Nat.le_of_ble_eq_true rfl) (fun X hX hE => ?_)
  replace hX : mOK X RX2 cX2_setOfDay 6 ⟨5, 0, 0, 120⟩ [] (mTy cs) := hX
  have hr := zrg hS hd
  have hse := hS.2.2.2.1 d hd4
  have hsd : -21915 ≤ sse S d / 86400 ∧ sse S d / 86400 ≤ 22279 := by omega
  have hdom := DOM_b hsd.1 hsd.2
  have hdm := dm_b (YR (sse S d / 86400)) (MO (sse S d / 86400))
  have hmo := MO_b (sse S d / 86400)
  have hyr := YR_spec hsd.1 hsd.2
  have hfo := FO_b (y := YR (sse S d / 86400)) (by omega)
  have hdb := DB_b (y := YR (sse S d / 86400)) (m := MO (sse S d / 86400)) (by omega)
  have hyl := yl_b (YR (sse S d / 86400))
  refine r_aload_n hX dX2_setOfDay_0 rfl rfl (r_callV hX (z_X1_day _ _ (d + 5) _ _ _ _ (zWd_loc (d := d) hd) (zrg hS hd)) kv_X2_274 (d + 5) (zWd_loc (d := d) hd) rfl rfl rfl (Nat.le_of_ble_eq_true rfl) ⟨(Nat.le_of_ble_eq_true rfl), (Nat.le_of_ble_eq_true rfl)⟩ ⟨(Nat.le_of_ble_eq_true rfl), (Nat.le_of_ble_eq_true rfl)⟩ dX2_setOfDay_1 (fun _ _ z => False.elim z) (fun v9 ws9 h1 => ?_))
  obtain ⟨rfl, hw9⟩ := h1
  subst ws9
  dsimp only [mPush]
  refine r_callS hX (z_X0_yearOf _ _ _ (by first | with_reducible assumption | decide | omega)) ks_X2_323 rfl rfl (Nat.le_of_ble_eq_true rfl) ⟨(Nat.le_of_ble_eq_true rfl), (Nat.le_of_ble_eq_true rfl)⟩ ⟨(Nat.le_of_ble_eq_true rfl), (Nat.le_of_ble_eq_true rfl)⟩ dX2_setOfDay_4 (fun _ _ z => False.elim z) (fun v9 ws9 h2 => ?_)
  obtain ⟨rfl, hw9⟩ := h2
  subst ws9
  dsimp only [mPush]
  refine r_istore hX dX2_setOfDay_7 (by decide) rfl (r_aload_n hX dX2_setOfDay_9 rfl rfl (r_callV hX (z_X1_day _ _ (d + 5) _ _ _ _ (zWd_loc (d := d) hd) (zrg hS hd)) kv_X2_274 (d + 5) (zWd_loc (d := d) hd) rfl rfl rfl (Nat.le_of_ble_eq_true rfl) ⟨(Nat.le_of_ble_eq_true rfl), (Nat.le_of_ble_eq_true rfl)⟩ ⟨(Nat.le_of_ble_eq_true rfl), (Nat.le_of_ble_eq_true rfl)⟩ dX2_setOfDay_10 (fun _ _ z => False.elim z) (fun v9 ws9 h3 => ?_)))
  obtain ⟨rfl, hw9⟩ := h3
  subst ws9
  dsimp only [mPush]
  refine r_callS hX (z_X0_monthOf _ _ _ (by first | with_reducible assumption | decide | omega)) ks_X2_326 rfl rfl (Nat.le_of_ble_eq_true rfl) ⟨(Nat.le_of_ble_eq_true rfl), (Nat.le_of_ble_eq_true rfl)⟩ ⟨(Nat.le_of_ble_eq_true rfl), (Nat.le_of_ble_eq_true rfl)⟩ dX2_setOfDay_13 (fun _ _ z => False.elim z) (fun v9 ws9 h4 => ?_)
  obtain ⟨rfl, hw9⟩ := h4
  subst ws9
  dsimp only [mPush]
  refine r_istore hX dX2_setOfDay_16 (by decide) rfl (r_iload_n hX dX2_setOfDay_18 rfl rfl ?_)
  by_cases s5 : f = 0
  · refine r_tableInZ (z := 0) (off := 25) (tgt := 44) hX dX2_setOfDay_19 s5 (by decide) (by decide) (by decide) rfl (by decide) (r_aload_n hX dX2_setOfDay_44 rfl rfl (r_aload_n hX dX2_setOfDay_45 rfl rfl (r_iload_n hX dX2_setOfDay_46 rfl rfl (r_i2lZ hX dX2_setOfDay_47 (by first | with_reducible assumption | decide | omega) (r_ldc2Z (z := 12) hX kc_X2_140 (by decide +kernel) dX2_setOfDay_48 (r_lmulZ hX dX2_setOfDay_51 (r_iload hX dX2_setOfDay_52 rfl ?_)))))))
    refine r_i2lZ hX dX2_setOfDay_54 (by first | with_reducible assumption | decide | omega) (r_laddZ hX dX2_setOfDay_55 (r_lconstZ (v := 1) hX dX2_setOfDay_56 rfl (r_lsubZ hX dX2_setOfDay_57 (r_callV hX (z_X2_putMonths ad cs S T rest hS d hd (by first | with_reducible assumption | decide | omega) _ (by first | with_reducible assumption | decide | omega)) kv_X2_142 0 rfl rfl rfl rfl (Nat.le_of_ble_eq_true rfl) ⟨(Nat.le_of_ble_eq_true rfl), (Nat.le_of_ble_eq_true rfl)⟩ ⟨(Nat.le_of_ble_eq_true rfl), (Nat.le_of_ble_eq_true rfl)⟩ dX2_setOfDay_58 (fun _ _ z => False.elim z) (fun v9 ws9 h6 => ?_)))))
    obtain ⟨rfl, hw9⟩ := h6
    subst ws9
    dsimp only [mPush]
    refine r_iret hX hE dX2_setOfDay_61 (Nat.le_of_ble_eq_true rfl) (Nat.le_of_ble_eq_true rfl) ?_
    unfold oDay
    rw [if_pos (by first | (rw [s5]; decide) | omega)]
    exact ⟨rfl, rfl⟩
  by_cases s7 : f = 1
  · refine r_tableInZ (z := 1) (off := 43) (tgt := 62) hX dX2_setOfDay_19 s7 (by decide) (by decide) (by decide) rfl (by decide) (r_iload_n hX dX2_setOfDay_62 rfl rfl (r_i2lZ hX dX2_setOfDay_63 (by first | with_reducible assumption | decide | omega) (r_lconstZ (v := 1) hX dX2_setOfDay_64 rfl (r_ldc2Z (z := 12) hX kc_X2_140 (by decide +kernel) dX2_setOfDay_65 (r_callS hX (z_X2_isWithin _ _ _ _ _ (by first | with_reducible assumption | decide | omega) (by first | with_reducible assumption | decide | omega) (by first | with_reducible assumption | decide | omega)) ks_X2_48 rfl rfl (Nat.le_of_ble_eq_true rfl) ⟨(Nat.le_of_ble_eq_true rfl), (Nat.le_of_ble_eq_true rfl)⟩ ⟨(Nat.le_of_ble_eq_true rfl), (Nat.le_of_ble_eq_true rfl)⟩ dX2_setOfDay_68 (fun _ _ z => False.elim z) (fun v9 ws9 h8 => ?_))))))
    obtain ⟨rfl, hw9⟩ := h8
    subst ws9
    dsimp only [mPush]
    refine r_if_eqB (tgt := 94) hX dX2_setOfDay_71 (by decide) (fun c9 => ?_) (fun c9 => ?_)
    · have c9 := of_decide_eq_false c9
      refine r_aload_n hX dX2_setOfDay_94 rfl rfl (r_callV hX (z_X2_refused ad cs S T rest) kv_X2_56 0 rfl rfl rfl rfl (Nat.le_of_ble_eq_true rfl) ⟨(Nat.le_of_ble_eq_true rfl), (Nat.le_of_ble_eq_true rfl)⟩ ⟨(Nat.le_of_ble_eq_true rfl), (Nat.le_of_ble_eq_true rfl)⟩ dX2_setOfDay_95 (fun _ _ z => False.elim z) (fun v9 ws9 h10 => ?_))
      obtain ⟨rfl, hw9⟩ := h10
      subst ws9
      dsimp only [mPush]
      refine r_iret hX hE dX2_setOfDay_98 (Nat.le_of_ble_eq_true rfl) (Nat.le_of_ble_eq_true rfl) ?_
      unfold oDay
      rw [if_neg (by first | (rw [s7]; decide) | omega)]
      rw [if_pos (by first | (rw [s7]; decide) | omega)]
      rw [if_neg (by assumption)]
      exact ⟨rfl, rfl⟩
    · have c9 := of_decide_eq_true c9
      refine r_aload_n hX dX2_setOfDay_74 rfl rfl (r_aload_n hX dX2_setOfDay_75 rfl rfl (r_iload hX dX2_setOfDay_76 rfl (r_i2lZ hX dX2_setOfDay_78 (by first | with_reducible assumption | decide | omega) (r_ldc2Z (z := 12) hX kc_X2_140 (by decide +kernel) dX2_setOfDay_79 (r_lmulZ hX dX2_setOfDay_82 (r_iload_n hX dX2_setOfDay_83 rfl rfl (r_i2lZ hX dX2_setOfDay_84 (by first | with_reducible assumption | decide | omega) ?_)))))))
      refine r_laddZ hX dX2_setOfDay_85 (r_lconstZ (v := 1) hX dX2_setOfDay_86 rfl (r_lsubZ hX dX2_setOfDay_87 (r_callV hX (z_X2_putMonths ad cs S T rest hS d hd (by first | with_reducible assumption | decide | omega) _ (by first | with_reducible assumption | decide | omega)) kv_X2_142 0 rfl rfl rfl rfl (Nat.le_of_ble_eq_true rfl) ⟨(Nat.le_of_ble_eq_true rfl), (Nat.le_of_ble_eq_true rfl)⟩ ⟨(Nat.le_of_ble_eq_true rfl), (Nat.le_of_ble_eq_true rfl)⟩ dX2_setOfDay_88 (fun _ _ z => False.elim z) (fun v9 ws9 h11 => ?_))))
      obtain ⟨rfl, hw9⟩ := h11
      subst ws9
      dsimp only [mPush]
      refine r_goto (tgt := 98) hX dX2_setOfDay_91 (by decide) (r_iret hX hE dX2_setOfDay_98 (Nat.le_of_ble_eq_true rfl) (Nat.le_of_ble_eq_true rfl) ?_)
      unfold oDay
      rw [if_neg (by first | (rw [s7]; decide) | omega)]
      rw [if_pos (by first | (rw [s7]; decide) | omega)]
      rw [if_pos (by assumption)]
      exact ⟨rfl, rfl⟩
  by_cases s12 : f = 2
  · refine r_tableInZ (z := 2) (off := 80) (tgt := 99) hX dX2_setOfDay_19 s12 (by decide) (by decide) (by decide) rfl (by decide) (r_iload_n hX dX2_setOfDay_99 rfl rfl (r_i2lZ hX dX2_setOfDay_100 (by first | with_reducible assumption | decide | omega) (r_lconstZ (v := 1) hX dX2_setOfDay_101 rfl (r_iload hX dX2_setOfDay_102 rfl (r_iload hX dX2_setOfDay_104 rfl (r_callS hX (z_X0_lengthOfMonth _ _ _ (YR ((sse S d) / 86400)) (by first | with_reducible assumption | decide | omega) (by first | with_reducible assumption | decide | omega) _ (MO ((sse S d) / 86400)) (by first | with_reducible assumption | decide | omega) (by first | with_reducible assumption | decide | omega)) ks_X2_308 rfl rfl (Nat.le_of_ble_eq_true rfl) ⟨(Nat.le_of_ble_eq_true rfl), (Nat.le_of_ble_eq_true rfl)⟩ ⟨(Nat.le_of_ble_eq_true rfl), (Nat.le_of_ble_eq_true rfl)⟩ dX2_setOfDay_106 (fun _ _ z => False.elim z) (fun v9 ws9 h13 => ?_)))))))
    obtain ⟨rfl, hw9⟩ := h13
    subst ws9
    dsimp only [mPush]
    refine r_i2lZ hX dX2_setOfDay_109 (by first | with_reducible assumption | decide | omega) (r_callS hX (z_X2_isWithin _ _ _ _ _ (by first | with_reducible assumption | decide | omega) (by first | with_reducible assumption | decide | omega) (by first | with_reducible assumption | decide | omega)) ks_X2_48 rfl rfl (Nat.le_of_ble_eq_true rfl) ⟨(Nat.le_of_ble_eq_true rfl), (Nat.le_of_ble_eq_true rfl)⟩ ⟨(Nat.le_of_ble_eq_true rfl), (Nat.le_of_ble_eq_true rfl)⟩ dX2_setOfDay_110 (fun _ _ z => False.elim z) (fun v9 ws9 h14 => ?_))
    obtain ⟨rfl, hw9⟩ := h14
    subst ws9
    dsimp only [mPush]
    refine r_if_eqB (tgt := 132) hX dX2_setOfDay_113 (by decide) (fun c15 => ?_) (fun c15 => ?_)
    · have c15 := of_decide_eq_false c15
      refine r_aload_n hX dX2_setOfDay_132 rfl rfl (r_callV hX (z_X2_refused ad cs S T rest) kv_X2_56 0 rfl rfl rfl rfl (Nat.le_of_ble_eq_true rfl) ⟨(Nat.le_of_ble_eq_true rfl), (Nat.le_of_ble_eq_true rfl)⟩ ⟨(Nat.le_of_ble_eq_true rfl), (Nat.le_of_ble_eq_true rfl)⟩ dX2_setOfDay_133 (fun _ _ z => False.elim z) (fun v9 ws9 h16 => ?_))
      obtain ⟨rfl, hw9⟩ := h16
      subst ws9
      dsimp only [mPush]
      refine r_iret hX hE dX2_setOfDay_136 (Nat.le_of_ble_eq_true rfl) (Nat.le_of_ble_eq_true rfl) ?_
      unfold oDay
      rw [if_neg (by first | (rw [s12]; decide) | omega)]
      rw [if_neg (by first | (rw [s12]; decide) | omega)]
      rw [if_pos (by first | (rw [s12]; decide) | omega)]
      rw [if_neg (by assumption)]
      exact ⟨rfl, rfl⟩
    · have c15 := of_decide_eq_true c15
      refine r_aload_n hX dX2_setOfDay_116 rfl rfl (r_aload_n hX dX2_setOfDay_117 rfl rfl (r_iload hX dX2_setOfDay_118 rfl (r_iload hX dX2_setOfDay_120 rfl (r_iload_n hX dX2_setOfDay_122 rfl rfl (r_callS hX (z_X0_dayOf _ _ _ (YR ((sse S d) / 86400)) (by first | with_reducible assumption | decide | omega) (by first | with_reducible assumption | decide | omega) _ (MO ((sse S d) / 86400)) (by first | with_reducible assumption | decide | omega) (by first | with_reducible assumption | decide | omega) _) ks_X2_126 rfl rfl (Nat.le_of_ble_eq_true rfl) ⟨(Nat.le_of_ble_eq_true rfl), (Nat.le_of_ble_eq_true rfl)⟩ ⟨(Nat.le_of_ble_eq_true rfl), (Nat.le_of_ble_eq_true rfl)⟩ dX2_setOfDay_123 (fun _ _ z => False.elim z) (fun v9 ws9 h17 => ?_))))))
      obtain ⟨rfl, hw9⟩ := h17
      subst ws9
      dsimp only [mPush]
      refine r_callV hX (z_X2_putDay ad cs S T rest hS d hd _ (by first | with_reducible assumption | decide | omega)) kv_X2_317 0 rfl rfl rfl rfl (Nat.le_of_ble_eq_true rfl) ⟨(Nat.le_of_ble_eq_true rfl), (Nat.le_of_ble_eq_true rfl)⟩ ⟨(Nat.le_of_ble_eq_true rfl), (Nat.le_of_ble_eq_true rfl)⟩ dX2_setOfDay_126 (fun _ _ z => False.elim z) (fun v9 ws9 h18 => ?_)
      obtain ⟨rfl, hw9⟩ := h18
      subst ws9
      dsimp only [mPush]
      refine r_goto (tgt := 136) hX dX2_setOfDay_129 (by decide) (r_iret hX hE dX2_setOfDay_136 (Nat.le_of_ble_eq_true rfl) (Nat.le_of_ble_eq_true rfl) ?_)
      unfold oDay
      rw [if_neg (by first | (rw [s12]; decide) | omega)]
      rw [if_neg (by first | (rw [s12]; decide) | omega)]
      rw [if_pos (by first | (rw [s12]; decide) | omega)]
      rw [if_pos (by assumption)]
      exact ⟨rfl, rfl⟩
  refine r_tableOutZ (tgt := 137) hX dX2_setOfDay_19 (by first | with_reducible assumption | decide | omega) (by first | with_reducible assumption | decide | omega) (by decide) (r_iload_n hX dX2_setOfDay_137 rfl rfl (r_i2lZ hX dX2_setOfDay_138 (by first | with_reducible assumption | decide | omega) (r_lconstZ (v := 1) hX dX2_setOfDay_139 rfl (r_iload hX dX2_setOfDay_140 rfl (r_callS hX (z_X0_lengthOfYear _ _ _ (YR ((sse S d) / 86400)) (by first | with_reducible assumption | decide | omega) (by first | with_reducible assumption | decide | omega)) ks_X2_329 rfl rfl (Nat.le_of_ble_eq_true rfl) ⟨(Nat.le_of_ble_eq_true rfl), (Nat.le_of_ble_eq_true rfl)⟩ ⟨(Nat.le_of_ble_eq_true rfl), (Nat.le_of_ble_eq_true rfl)⟩ dX2_setOfDay_142 (fun _ _ z => False.elim z) (fun v9 ws9 h19 => ?_))))))
  obtain ⟨rfl, hw9⟩ := h19
  subst ws9
  dsimp only [mPush]
  refine r_i2lZ hX dX2_setOfDay_145 (by first | with_reducible assumption | decide | omega) (r_callS hX (z_X2_isWithin _ _ _ _ _ (by first | with_reducible assumption | decide | omega) (by first | with_reducible assumption | decide | omega) (by first | with_reducible assumption | decide | omega)) ks_X2_48 rfl rfl (Nat.le_of_ble_eq_true rfl) ⟨(Nat.le_of_ble_eq_true rfl), (Nat.le_of_ble_eq_true rfl)⟩ ⟨(Nat.le_of_ble_eq_true rfl), (Nat.le_of_ble_eq_true rfl)⟩ dX2_setOfDay_146 (fun _ _ z => False.elim z) (fun v9 ws9 h20 => ?_))
  obtain ⟨rfl, hw9⟩ := h20
  subst ws9
  dsimp only [mPush]
  refine r_if_eqB (tgt := 169) hX dX2_setOfDay_149 (by decide) (fun c21 => ?_) (fun c21 => ?_)
  · have c21 := of_decide_eq_false c21
    refine r_aload_n hX dX2_setOfDay_169 rfl rfl (r_callV hX (z_X2_refused ad cs S T rest) kv_X2_56 0 rfl rfl rfl rfl (Nat.le_of_ble_eq_true rfl) ⟨(Nat.le_of_ble_eq_true rfl), (Nat.le_of_ble_eq_true rfl)⟩ ⟨(Nat.le_of_ble_eq_true rfl), (Nat.le_of_ble_eq_true rfl)⟩ dX2_setOfDay_170 (fun _ _ z => False.elim z) (fun v9 ws9 h22 => ?_))
    obtain ⟨rfl, hw9⟩ := h22
    subst ws9
    dsimp only [mPush]
    refine r_iret hX hE dX2_setOfDay_173 (Nat.le_of_ble_eq_true rfl) (Nat.le_of_ble_eq_true rfl) ?_
    unfold oDay
    rw [if_neg (by omega)]
    rw [if_neg (by omega)]
    rw [if_neg (by omega)]
    rw [if_neg (by assumption)]
    exact ⟨rfl, rfl⟩
  · have c21 := of_decide_eq_true c21
    refine r_aload_n hX dX2_setOfDay_152 rfl rfl (r_aload_n hX dX2_setOfDay_153 rfl rfl (r_iload hX dX2_setOfDay_154 rfl (r_callS hX (z_X0_firstDayOf _ _ _ (YR ((sse S d) / 86400)) (by first | with_reducible assumption | decide | omega) (by first | with_reducible assumption | decide | omega)) ks_X2_332 rfl rfl (Nat.le_of_ble_eq_true rfl) ⟨(Nat.le_of_ble_eq_true rfl), (Nat.le_of_ble_eq_true rfl)⟩ ⟨(Nat.le_of_ble_eq_true rfl), (Nat.le_of_ble_eq_true rfl)⟩ dX2_setOfDay_156 (fun _ _ z => False.elim z) (fun v9 ws9 h23 => ?_))))
    obtain ⟨rfl, hw9⟩ := h23
    subst ws9
    dsimp only [mPush]
    refine r_iload_n hX dX2_setOfDay_159 rfl rfl (r_iaddZ hX dX2_setOfDay_160 (r_iconstZ hX dX2_setOfDay_161 (r_isubZ hX dX2_setOfDay_162 (r_callV hX (z_X2_putDay ad cs S T rest hS d hd _ (by first | with_reducible assumption | decide | omega)) kv_X2_317 0 rfl rfl rfl rfl (Nat.le_of_ble_eq_true rfl) ⟨(Nat.le_of_ble_eq_true rfl), (Nat.le_of_ble_eq_true rfl)⟩ ⟨(Nat.le_of_ble_eq_true rfl), (Nat.le_of_ble_eq_true rfl)⟩ dX2_setOfDay_163 (fun _ _ z => False.elim z) (fun v9 ws9 h24 => ?_)))))
    obtain ⟨rfl, hw9⟩ := h24
    subst ws9
    dsimp only [mPush]
    refine r_goto (tgt := 173) hX dX2_setOfDay_166 (by decide) (r_iret hX hE dX2_setOfDay_173 (Nat.le_of_ble_eq_true rfl) (Nat.le_of_ble_eq_true rfl) ?_)
    unfold oDay
    rw [if_neg (by omega)]
    rw [if_neg (by omega)]
    rw [if_neg (by omega)]
    rw [if_pos (by assumption)]
    exact ⟨rfl, rfl⟩
end
-- 68 zpub
section
/-! The class, exact (rows by a program of this repository). -/
def oOff (S : mS) (j : Nat) (h m s : Int) : Int × mS := if ((-18 ≤ h ∧ h ≤ 18) ∧ (-59 ≤ m ∧ m ≤ 59) ∧ (-59 ≤ s ∧ s ≤ 59)) ∧ ¬ ((0 < h ∨ 0 < m ∨ 0 < s) ∧ (h < 0 ∨ m < 0 ∨ s < 0)) ∧ (-64800 ≤ h * 3600 + m * 60 + s ∧ h * 3600 + m * 60 + s ≤ 64800) then (h * 3600 + m * 60 + s, sOf S j (h * 3600 + m * 60 + s)) else (-9, sRf S)
set_option maxHeartbeats 4000000 in
set_option maxRecDepth 20000 in
theorem z_X2_offset (ad : Nat → Nat) (cs : ClassId × ClassId × ClassId) (S : mS) (T : mT2) (rest : va_W) (hS : sWF S) (a0 : Int) (h0 : rJ a0) (a1 : Int) (h1 : rJ a1)  : mCt (mTy cs) yX2_offset cX2_offset 4 (some .int) ⟨7, 2, 12, 104⟩ [.ref (ad 0), .int (iZ a0), .int (iZ a1)] (mWd ad cs (mKof S T) rest) (fun v ws' => (((0 ≤ a0 ∧ a0 < 4)) ∧ (-64800 ≤ a1 ∧ a1 ≤ 64800)) ∧ v = some (.int (iZ ((sof S a0.toNat, sOf S a0.toNat a1)).1)) ∧ ws' = mWd ad cs (mKof ((sof S a0.toNat, sOf S a0.toNat a1)).2 T) rest) (fun E ws' => ws' = mWd ad cs (mKof S T) rest ∧ ((E = xI ∧ ¬ ((0 ≤ a0 ∧ a0 < 4))) ∨ (E = xA ∧ ((0 ≤ a0 ∧ a0 < 4)) ∧ ¬ (-64800 ≤ a1 ∧ a1 ≤ 64800)))) := by
  refine mCt.of (by decide +kernel) (Nat.le_of_ble_eq_true rfl) (fun X hX hE => ?_)
  replace hX : mOK X RX2 cX2_offset 4 ⟨7, 2, 12, 104⟩ [] (mTy cs) := hX
  refine r_iload_n hX dX2_offset_0 rfl rfl (r_aload_n hX dX2_offset_1 rfl rfl (r_get hX kf_X2_9 0 rfl rfl dX2_offset_2 (r_alen (v := iZ 4) hX 1 0 rfl rfl rfl dX2_offset_5 (r_callS hX (z_X2_requireOne _ _ _ 4 (by first | with_reducible assumption | decide | omega) (by decide)) ks_X2_34 rfl rfl (Nat.le_of_ble_eq_true rfl) ⟨(Nat.le_of_ble_eq_true rfl), (Nat.le_of_ble_eq_true rfl)⟩ ⟨(Nat.le_of_ble_eq_true rfl), (Nat.le_of_ble_eq_true rfl)⟩ dX2_offset_6 (fun E ws9 z => r_out hX hE (Nat.le_of_ble_eq_true rfl) (Nat.le_of_ble_eq_true rfl) ⟨z.2.1, Or.inl ⟨z.1, fun q => z.2.2 (by first | with_reducible assumption | decide | omega)⟩⟩) (fun v9 ws9 h1 => ?_)))))
  obtain ⟨hi2, rfl, hw9⟩ := h1
  subst ws9
  dsimp only [mPush]
  refine r_iload_n hX dX2_offset_9 rfl rfl (r_ldcZ (z := -64800) hX kc_X2_38 (by decide +kernel) dX2_offset_10 (r_ldcZ (z := 64800) hX kc_X2_39 (by decide +kernel) dX2_offset_12 (r_callS hX (z_X2_requireWithin _ _ _ _ _ (by first | with_reducible assumption | decide | omega) (by first | with_reducible assumption | decide | omega) (by first | with_reducible assumption | decide | omega)) ks_X2_40 rfl rfl (Nat.le_of_ble_eq_true rfl) ⟨(Nat.le_of_ble_eq_true rfl), (Nat.le_of_ble_eq_true rfl)⟩ ⟨(Nat.le_of_ble_eq_true rfl), (Nat.le_of_ble_eq_true rfl)⟩ dX2_offset_14 (fun E ws9 z => r_out hX hE (Nat.le_of_ble_eq_true rfl) (Nat.le_of_ble_eq_true rfl) ⟨z.2.1, Or.inr ⟨z.1, by omega, fun q => z.2.2 (by first | with_reducible assumption | decide | omega)⟩⟩) (fun v9 ws9 h3 => ?_))))
  obtain ⟨hi4, rfl, hw9⟩ := h3
  subst ws9
  dsimp only [mPush]
  refine r_aload_n hX dX2_offset_17 rfl rfl (r_get hX kf_X2_9 0 rfl rfl dX2_offset_18 (r_iload_n hX dX2_offset_21 rfl rfl (r_ialdZ hX 1 0 rfl rfl (a0).toNat (by first | with_reducible assumption | decide | omega) (by first | with_reducible assumption | decide | omega) (by decide) dX2_offset_22 (r_istore_n hX dX2_offset_23 rfl (by decide) rfl (r_aload_n hX dX2_offset_24 rfl rfl (r_get hX kf_X2_9 0 rfl rfl dX2_offset_25 (r_iload_n hX dX2_offset_28 rfl rfl ?_)))))))
  refine r_iload_n hX dX2_offset_29 rfl rfl (r_iastZ hX 1 0 rfl rfl (a0).toNat (by first | with_reducible assumption | decide | omega) (by first | with_reducible assumption | decide | omega) (by decide) dX2_offset_30 (r_eqw (zWd_off (j := (a0).toNat) (z := a1)) (r_iload_n hX dX2_offset_31 rfl rfl (r_iret hX hE dX2_offset_32 (Nat.le_of_ble_eq_true rfl) (Nat.le_of_ble_eq_true rfl) ⟨by omega, ?_⟩))))
  exact ⟨rfl, rfl⟩
set_option maxHeartbeats 4000000 in
set_option maxRecDepth 20000 in
theorem z_X2_offsetOf (ad : Nat → Nat) (cs : ClassId × ClassId × ClassId) (S : mS) (T : mT2) (rest : va_W) (hS : sWF S) (a0 : Int) (h0 : rJ a0) (a1 : Int) (h1 : rJ a1) (a2 : Int) (h2 : rJ a2) (a3 : Int) (h3 : rJ a3)  : mCt (mTy cs) yX2_offsetOf cX2_offsetOf 8 (some .int) ⟨7, 1, 6, 103⟩ [.ref (ad 0), .int (iZ a0), .int (iZ a1), .int (iZ a2), .int (iZ a3)] (mWd ad cs (mKof S T) rest) (fun v ws' => (((0 ≤ a0 ∧ a0 < 4)) ∧ (0 ≤ (0 : Int))) ∧ v = some (.int (iZ (oOff S a0.toNat a1 a2 a3).1)) ∧ ws' = mWd ad cs (mKof (oOff S a0.toNat a1 a2 a3).2 T) rest) (fun E ws' => ws' = mWd ad cs (mKof S T) rest ∧ ((E = xI ∧ ¬ ((0 ≤ a0 ∧ a0 < 4))) ∨ (E = xA ∧ ((0 ≤ a0 ∧ a0 < 4)) ∧ ¬ (0 ≤ (0 : Int))))) := by
  refine mCt.of (by decide +kernel) (Nat.le_of_ble_eq_true rfl) (fun X hX hE => ?_)
  replace hX : mOK X RX2 cX2_offsetOf 8 ⟨7, 1, 6, 103⟩ [] (mTy cs) := hX
  refine r_iload_n hX dX2_offsetOf_0 rfl rfl (r_aload_n hX dX2_offsetOf_1 rfl rfl (r_get hX kf_X2_9 0 rfl rfl dX2_offsetOf_2 (r_alen (v := iZ 4) hX 1 0 rfl rfl rfl dX2_offsetOf_5 (r_callS hX (z_X2_requireOne _ _ _ 4 (by first | with_reducible assumption | decide | omega) (by decide)) ks_X2_34 rfl rfl (Nat.le_of_ble_eq_true rfl) ⟨(Nat.le_of_ble_eq_true rfl), (Nat.le_of_ble_eq_true rfl)⟩ ⟨(Nat.le_of_ble_eq_true rfl), (Nat.le_of_ble_eq_true rfl)⟩ dX2_offsetOf_6 (fun E ws9 z => r_out hX hE (Nat.le_of_ble_eq_true rfl) (Nat.le_of_ble_eq_true rfl) ⟨z.2.1, Or.inl ⟨z.1, fun q => z.2.2 (by first | with_reducible assumption | decide | omega)⟩⟩) (fun v9 ws9 h1 => ?_)))))
  obtain ⟨hi2, rfl, hw9⟩ := h1
  subst ws9
  dsimp only [mPush]
  refine r_iload_n hX dX2_offsetOf_9 rfl rfl (r_i2lZ hX dX2_offsetOf_10 (by first | with_reducible assumption | decide | omega) (r_ldc2Z (z := -18) hX kc_X2_44 (by decide +kernel) dX2_offsetOf_11 (r_ldc2Z (z := 18) hX kc_X2_46 (by decide +kernel) dX2_offsetOf_14 (r_callS hX (z_X2_isWithin _ _ _ _ _ (by first | with_reducible assumption | decide | omega) (by first | with_reducible assumption | decide | omega) (by first | with_reducible assumption | decide | omega)) ks_X2_48 rfl rfl (Nat.le_of_ble_eq_true rfl) ⟨(Nat.le_of_ble_eq_true rfl), (Nat.le_of_ble_eq_true rfl)⟩ ⟨(Nat.le_of_ble_eq_true rfl), (Nat.le_of_ble_eq_true rfl)⟩ dX2_offsetOf_17 (fun _ _ z => False.elim z) (fun v9 ws9 h3 => ?_)))))
  obtain ⟨rfl, hw9⟩ := h3
  subst ws9
  dsimp only [mPush]
  refine r_if_eqB (tgt := 52) hX dX2_offsetOf_20 (by decide) (fun c4 => ?_) (fun c4 => ?_)
  · have c4 := of_decide_eq_false c4
    refine r_aload_n hX dX2_offsetOf_52 rfl rfl (r_callV hX (z_X2_refused ad cs S T rest) kv_X2_56 0 rfl rfl rfl rfl (Nat.le_of_ble_eq_true rfl) ⟨(Nat.le_of_ble_eq_true rfl), (Nat.le_of_ble_eq_true rfl)⟩ ⟨(Nat.le_of_ble_eq_true rfl), (Nat.le_of_ble_eq_true rfl)⟩ dX2_offsetOf_53 (fun _ _ z => False.elim z) (fun v9 ws9 h5 => ?_))
    obtain ⟨rfl, hw9⟩ := h5
    subst ws9
    dsimp only [mPush]
    refine r_iret hX hE dX2_offsetOf_56 (Nat.le_of_ble_eq_true rfl) (Nat.le_of_ble_eq_true rfl) ⟨by omega, ?_⟩
    unfold oOff
    rw [if_neg (by omega)]
    exact ⟨rfl, rfl⟩
  · have c4 := of_decide_eq_true c4
    refine r_iload_n hX dX2_offsetOf_23 rfl rfl (r_i2lZ hX dX2_offsetOf_24 (by first | with_reducible assumption | decide | omega) (r_ldc2Z (z := -59) hX kc_X2_52 (by decide +kernel) dX2_offsetOf_25 (r_ldc2Z (z := 59) hX kc_X2_54 (by decide +kernel) dX2_offsetOf_28 (r_callS hX (z_X2_isWithin _ _ _ _ _ (by first | with_reducible assumption | decide | omega) (by first | with_reducible assumption | decide | omega) (by first | with_reducible assumption | decide | omega)) ks_X2_48 rfl rfl (Nat.le_of_ble_eq_true rfl) ⟨(Nat.le_of_ble_eq_true rfl), (Nat.le_of_ble_eq_true rfl)⟩ ⟨(Nat.le_of_ble_eq_true rfl), (Nat.le_of_ble_eq_true rfl)⟩ dX2_offsetOf_31 (fun _ _ z => False.elim z) (fun v9 ws9 h6 => ?_)))))
    obtain ⟨rfl, hw9⟩ := h6
    subst ws9
    dsimp only [mPush]
    refine r_if_eqB (tgt := 52) hX dX2_offsetOf_34 (by decide) (fun c7 => ?_) (fun c7 => ?_)
    · have c7 := of_decide_eq_false c7
      refine r_aload_n hX dX2_offsetOf_52 rfl rfl (r_callV hX (z_X2_refused ad cs S T rest) kv_X2_56 0 rfl rfl rfl rfl (Nat.le_of_ble_eq_true rfl) ⟨(Nat.le_of_ble_eq_true rfl), (Nat.le_of_ble_eq_true rfl)⟩ ⟨(Nat.le_of_ble_eq_true rfl), (Nat.le_of_ble_eq_true rfl)⟩ dX2_offsetOf_53 (fun _ _ z => False.elim z) (fun v9 ws9 h8 => ?_))
      obtain ⟨rfl, hw9⟩ := h8
      subst ws9
      dsimp only [mPush]
      refine r_iret hX hE dX2_offsetOf_56 (Nat.le_of_ble_eq_true rfl) (Nat.le_of_ble_eq_true rfl) ⟨by omega, ?_⟩
      unfold oOff
      rw [if_neg (by omega)]
      exact ⟨rfl, rfl⟩
    · have c7 := of_decide_eq_true c7
      refine r_iload hX dX2_offsetOf_37 rfl (r_i2lZ hX dX2_offsetOf_39 (by first | with_reducible assumption | decide | omega) (r_ldc2Z (z := -59) hX kc_X2_52 (by decide +kernel) dX2_offsetOf_40 (r_ldc2Z (z := 59) hX kc_X2_54 (by decide +kernel) dX2_offsetOf_43 (r_callS hX (z_X2_isWithin _ _ _ _ _ (by first | with_reducible assumption | decide | omega) (by first | with_reducible assumption | decide | omega) (by first | with_reducible assumption | decide | omega)) ks_X2_48 rfl rfl (Nat.le_of_ble_eq_true rfl) ⟨(Nat.le_of_ble_eq_true rfl), (Nat.le_of_ble_eq_true rfl)⟩ ⟨(Nat.le_of_ble_eq_true rfl), (Nat.le_of_ble_eq_true rfl)⟩ dX2_offsetOf_46 (fun _ _ z => False.elim z) (fun v9 ws9 h9 => ?_)))))
      obtain ⟨rfl, hw9⟩ := h9
      subst ws9
      dsimp only [mPush]
      refine r_if_neB (tgt := 57) hX dX2_offsetOf_49 (by decide) (fun c10 => ?_) (fun c10 => ?_)
      · have c10 := of_decide_eq_true c10
        refine r_iload_n hX dX2_offsetOf_57 rfl rfl (r_if_gtZ (tgt := 70) hX dX2_offsetOf_58 (by decide) (by first | with_reducible assumption | decide | omega) (fun c11 => ?_) (fun c11 => ?_))
        · refine r_iconstZ hX dX2_offsetOf_70 (r_goto (tgt := 75) hX dX2_offsetOf_71 (by decide) (r_istore hX dX2_offsetOf_75 (by decide) rfl (r_iload_n hX dX2_offsetOf_77 rfl rfl (r_if_ltZ (tgt := 90) hX dX2_offsetOf_78 (by decide) (by first | with_reducible assumption | decide | omega) (fun c12 => ?_) (fun c12 => ?_)))))
          · refine r_iconstZ hX dX2_offsetOf_90 (r_goto (tgt := 95) hX dX2_offsetOf_91 (by decide) (r_istore hX dX2_offsetOf_95 (by decide) rfl (r_iload_n hX dX2_offsetOf_97 rfl rfl (r_sipushZ hX dX2_offsetOf_98 (by decide +kernel) (r_imulZ hX dX2_offsetOf_101 (r_iload_n hX dX2_offsetOf_102 rfl rfl (r_bipushZ hX dX2_offsetOf_103 (by decide +kernel) ?_)))))))
            refine r_imulZ hX dX2_offsetOf_105 (r_iaddZ hX dX2_offsetOf_106 (r_iload hX dX2_offsetOf_107 rfl (r_iaddZ hX dX2_offsetOf_109 (r_istore hX dX2_offsetOf_110 (by decide) rfl (r_iload hX dX2_offsetOf_112 rfl (r_if_eqZ (tgt := 122) hX dX2_offsetOf_114 (by decide) (by decide) (fun q => absurd q (by decide)) (fun _ => ?_)))))))
            refine r_iload hX dX2_offsetOf_117 rfl (r_if_neZ (tgt := 137) hX dX2_offsetOf_119 (by decide) (by decide) (fun _ => ?_) (fun q => absurd (by decide) q))
            refine r_aload_n hX dX2_offsetOf_137 rfl rfl (r_callV hX (z_X2_refused ad cs S T rest) kv_X2_56 0 rfl rfl rfl rfl (Nat.le_of_ble_eq_true rfl) ⟨(Nat.le_of_ble_eq_true rfl), (Nat.le_of_ble_eq_true rfl)⟩ ⟨(Nat.le_of_ble_eq_true rfl), (Nat.le_of_ble_eq_true rfl)⟩ dX2_offsetOf_138 (fun _ _ z => False.elim z) (fun v9 ws9 h13 => ?_))
            obtain ⟨rfl, hw9⟩ := h13
            subst ws9
            dsimp only [mPush]
            refine r_iret hX hE dX2_offsetOf_141 (Nat.le_of_ble_eq_true rfl) (Nat.le_of_ble_eq_true rfl) ⟨by omega, ?_⟩
            unfold oOff
            rw [if_neg (by omega)]
            exact ⟨rfl, rfl⟩
          · refine r_iload_n hX dX2_offsetOf_81 rfl rfl (r_if_ltZ (tgt := 90) hX dX2_offsetOf_82 (by decide) (by first | with_reducible assumption | decide | omega) (fun c14 => ?_) (fun c14 => ?_))
            · refine r_iconstZ hX dX2_offsetOf_90 (r_goto (tgt := 95) hX dX2_offsetOf_91 (by decide) (r_istore hX dX2_offsetOf_95 (by decide) rfl (r_iload_n hX dX2_offsetOf_97 rfl rfl (r_sipushZ hX dX2_offsetOf_98 (by decide +kernel) (r_imulZ hX dX2_offsetOf_101 (r_iload_n hX dX2_offsetOf_102 rfl rfl (r_bipushZ hX dX2_offsetOf_103 (by decide +kernel) ?_)))))))
              refine r_imulZ hX dX2_offsetOf_105 (r_iaddZ hX dX2_offsetOf_106 (r_iload hX dX2_offsetOf_107 rfl (r_iaddZ hX dX2_offsetOf_109 (r_istore hX dX2_offsetOf_110 (by decide) rfl (r_iload hX dX2_offsetOf_112 rfl (r_if_eqZ (tgt := 122) hX dX2_offsetOf_114 (by decide) (by decide) (fun q => absurd q (by decide)) (fun _ => ?_)))))))
              refine r_iload hX dX2_offsetOf_117 rfl (r_if_neZ (tgt := 137) hX dX2_offsetOf_119 (by decide) (by decide) (fun _ => ?_) (fun q => absurd (by decide) q))
              refine r_aload_n hX dX2_offsetOf_137 rfl rfl (r_callV hX (z_X2_refused ad cs S T rest) kv_X2_56 0 rfl rfl rfl rfl (Nat.le_of_ble_eq_true rfl) ⟨(Nat.le_of_ble_eq_true rfl), (Nat.le_of_ble_eq_true rfl)⟩ ⟨(Nat.le_of_ble_eq_true rfl), (Nat.le_of_ble_eq_true rfl)⟩ dX2_offsetOf_138 (fun _ _ z => False.elim z) (fun v9 ws9 h15 => ?_))
              obtain ⟨rfl, hw9⟩ := h15
              subst ws9
              dsimp only [mPush]
              refine r_iret hX hE dX2_offsetOf_141 (Nat.le_of_ble_eq_true rfl) (Nat.le_of_ble_eq_true rfl) ⟨by omega, ?_⟩
              unfold oOff
              rw [if_neg (by omega)]
              exact ⟨rfl, rfl⟩
            · refine r_iload hX dX2_offsetOf_85 rfl (r_if_geZ (tgt := 94) hX dX2_offsetOf_87 (by decide) (by first | with_reducible assumption | decide | omega) (fun c16 => ?_) (fun c16 => ?_))
              · refine r_iconstZ hX dX2_offsetOf_94 (r_istore hX dX2_offsetOf_95 (by decide) rfl (r_iload_n hX dX2_offsetOf_97 rfl rfl (r_sipushZ hX dX2_offsetOf_98 (by decide +kernel) (r_imulZ hX dX2_offsetOf_101 (r_iload_n hX dX2_offsetOf_102 rfl rfl (r_bipushZ hX dX2_offsetOf_103 (by decide +kernel) (r_imulZ hX dX2_offsetOf_105 ?_)))))))
                refine r_iaddZ hX dX2_offsetOf_106 (r_iload hX dX2_offsetOf_107 rfl (r_iaddZ hX dX2_offsetOf_109 (r_istore hX dX2_offsetOf_110 (by decide) rfl (r_iload hX dX2_offsetOf_112 rfl (r_if_eqZ (tgt := 122) hX dX2_offsetOf_114 (by decide) (by decide) (fun q => absurd q (by decide)) (fun _ => ?_))))))
                refine r_iload hX dX2_offsetOf_117 rfl (r_if_neZ (tgt := 137) hX dX2_offsetOf_119 (by decide) (by decide) (fun q => absurd q (by decide)) (fun _ => ?_))
                refine r_iload hX dX2_offsetOf_122 rfl (r_i2lZ hX dX2_offsetOf_124 (by first | with_reducible assumption | decide | omega) (r_ldc2Z (z := -64800) hX kc_X2_60 (by decide +kernel) dX2_offsetOf_125 (r_ldc2Z (z := 64800) hX kc_X2_62 (by decide +kernel) dX2_offsetOf_128 (r_callS hX (z_X2_isWithin _ _ _ _ _ (by first | with_reducible assumption | decide | omega) (by first | with_reducible assumption | decide | omega) (by first | with_reducible assumption | decide | omega)) ks_X2_48 rfl rfl (Nat.le_of_ble_eq_true rfl) ⟨(Nat.le_of_ble_eq_true rfl), (Nat.le_of_ble_eq_true rfl)⟩ ⟨(Nat.le_of_ble_eq_true rfl), (Nat.le_of_ble_eq_true rfl)⟩ dX2_offsetOf_131 (fun _ _ z => False.elim z) (fun v9 ws9 h17 => ?_)))))
                obtain ⟨rfl, hw9⟩ := h17
                subst ws9
                dsimp only [mPush]
                refine r_if_neB (tgt := 142) hX dX2_offsetOf_134 (by decide) (fun c18 => ?_) (fun c18 => ?_)
                · have c18 := of_decide_eq_true c18
                  refine r_aload_n hX dX2_offsetOf_142 rfl rfl (r_get hX kf_X2_9 0 rfl rfl dX2_offsetOf_143 (r_iload_n hX dX2_offsetOf_146 rfl rfl (r_iload hX dX2_offsetOf_147 rfl (r_iastZ hX 1 0 rfl rfl (a0).toNat (by first | with_reducible assumption | decide | omega) (by first | with_reducible assumption | decide | omega) (by decide) dX2_offsetOf_149 (r_eqw (zWd_off (j := (a0).toNat) (z := ((a1 * 3600) + (a2 * 60)) + a3)) (r_iload hX dX2_offsetOf_150 rfl (r_iret hX hE dX2_offsetOf_152 (Nat.le_of_ble_eq_true rfl) (Nat.le_of_ble_eq_true rfl) ⟨by omega, ?_⟩)))))))
                  unfold oOff
                  rw [if_pos (by omega)]
                  exact ⟨rfl, rfl⟩
                · have c18 := of_decide_eq_false c18
                  refine r_aload_n hX dX2_offsetOf_137 rfl rfl (r_callV hX (z_X2_refused ad cs S T rest) kv_X2_56 0 rfl rfl rfl rfl (Nat.le_of_ble_eq_true rfl) ⟨(Nat.le_of_ble_eq_true rfl), (Nat.le_of_ble_eq_true rfl)⟩ ⟨(Nat.le_of_ble_eq_true rfl), (Nat.le_of_ble_eq_true rfl)⟩ dX2_offsetOf_138 (fun _ _ z => False.elim z) (fun v9 ws9 h19 => ?_))
                  obtain ⟨rfl, hw9⟩ := h19
                  subst ws9
                  dsimp only [mPush]
                  refine r_iret hX hE dX2_offsetOf_141 (Nat.le_of_ble_eq_true rfl) (Nat.le_of_ble_eq_true rfl) ⟨by omega, ?_⟩
                  unfold oOff
                  rw [if_neg (by omega)]
                  exact ⟨rfl, rfl⟩
              · refine r_iconstZ hX dX2_offsetOf_90 (r_goto (tgt := 95) hX dX2_offsetOf_91 (by decide) (r_istore hX dX2_offsetOf_95 (by decide) rfl (r_iload_n hX dX2_offsetOf_97 rfl rfl (r_sipushZ hX dX2_offsetOf_98 (by decide +kernel) (r_imulZ hX dX2_offsetOf_101 (r_iload_n hX dX2_offsetOf_102 rfl rfl (r_bipushZ hX dX2_offsetOf_103 (by decide +kernel) ?_)))))))
                refine r_imulZ hX dX2_offsetOf_105 (r_iaddZ hX dX2_offsetOf_106 (r_iload hX dX2_offsetOf_107 rfl (r_iaddZ hX dX2_offsetOf_109 (r_istore hX dX2_offsetOf_110 (by decide) rfl (r_iload hX dX2_offsetOf_112 rfl (r_if_eqZ (tgt := 122) hX dX2_offsetOf_114 (by decide) (by decide) (fun q => absurd q (by decide)) (fun _ => ?_)))))))
                refine r_iload hX dX2_offsetOf_117 rfl (r_if_neZ (tgt := 137) hX dX2_offsetOf_119 (by decide) (by decide) (fun _ => ?_) (fun q => absurd (by decide) q))
                refine r_aload_n hX dX2_offsetOf_137 rfl rfl (r_callV hX (z_X2_refused ad cs S T rest) kv_X2_56 0 rfl rfl rfl rfl (Nat.le_of_ble_eq_true rfl) ⟨(Nat.le_of_ble_eq_true rfl), (Nat.le_of_ble_eq_true rfl)⟩ ⟨(Nat.le_of_ble_eq_true rfl), (Nat.le_of_ble_eq_true rfl)⟩ dX2_offsetOf_138 (fun _ _ z => False.elim z) (fun v9 ws9 h20 => ?_))
                obtain ⟨rfl, hw9⟩ := h20
                subst ws9
                dsimp only [mPush]
                refine r_iret hX hE dX2_offsetOf_141 (Nat.le_of_ble_eq_true rfl) (Nat.le_of_ble_eq_true rfl) ⟨by omega, ?_⟩
                unfold oOff
                rw [if_neg (by omega)]
                exact ⟨rfl, rfl⟩
        · refine r_iload_n hX dX2_offsetOf_61 rfl rfl (r_if_gtZ (tgt := 70) hX dX2_offsetOf_62 (by decide) (by first | with_reducible assumption | decide | omega) (fun c21 => ?_) (fun c21 => ?_))
          · refine r_iconstZ hX dX2_offsetOf_70 (r_goto (tgt := 75) hX dX2_offsetOf_71 (by decide) (r_istore hX dX2_offsetOf_75 (by decide) rfl (r_iload_n hX dX2_offsetOf_77 rfl rfl (r_if_ltZ (tgt := 90) hX dX2_offsetOf_78 (by decide) (by first | with_reducible assumption | decide | omega) (fun c22 => ?_) (fun c22 => ?_)))))
            · refine r_iconstZ hX dX2_offsetOf_90 (r_goto (tgt := 95) hX dX2_offsetOf_91 (by decide) (r_istore hX dX2_offsetOf_95 (by decide) rfl (r_iload_n hX dX2_offsetOf_97 rfl rfl (r_sipushZ hX dX2_offsetOf_98 (by decide +kernel) (r_imulZ hX dX2_offsetOf_101 (r_iload_n hX dX2_offsetOf_102 rfl rfl (r_bipushZ hX dX2_offsetOf_103 (by decide +kernel) ?_)))))))
              refine r_imulZ hX dX2_offsetOf_105 (r_iaddZ hX dX2_offsetOf_106 (r_iload hX dX2_offsetOf_107 rfl (r_iaddZ hX dX2_offsetOf_109 (r_istore hX dX2_offsetOf_110 (by decide) rfl (r_iload hX dX2_offsetOf_112 rfl (r_if_eqZ (tgt := 122) hX dX2_offsetOf_114 (by decide) (by decide) (fun q => absurd q (by decide)) (fun _ => ?_)))))))
              refine r_iload hX dX2_offsetOf_117 rfl (r_if_neZ (tgt := 137) hX dX2_offsetOf_119 (by decide) (by decide) (fun _ => ?_) (fun q => absurd (by decide) q))
              refine r_aload_n hX dX2_offsetOf_137 rfl rfl (r_callV hX (z_X2_refused ad cs S T rest) kv_X2_56 0 rfl rfl rfl rfl (Nat.le_of_ble_eq_true rfl) ⟨(Nat.le_of_ble_eq_true rfl), (Nat.le_of_ble_eq_true rfl)⟩ ⟨(Nat.le_of_ble_eq_true rfl), (Nat.le_of_ble_eq_true rfl)⟩ dX2_offsetOf_138 (fun _ _ z => False.elim z) (fun v9 ws9 h23 => ?_))
              obtain ⟨rfl, hw9⟩ := h23
              subst ws9
              dsimp only [mPush]
              refine r_iret hX hE dX2_offsetOf_141 (Nat.le_of_ble_eq_true rfl) (Nat.le_of_ble_eq_true rfl) ⟨by omega, ?_⟩
              unfold oOff
              rw [if_neg (by omega)]
              exact ⟨rfl, rfl⟩
            · refine r_iload_n hX dX2_offsetOf_81 rfl rfl (r_if_ltZ (tgt := 90) hX dX2_offsetOf_82 (by decide) (by first | with_reducible assumption | decide | omega) (fun c24 => ?_) (fun c24 => ?_))
              · refine r_iconstZ hX dX2_offsetOf_90 (r_goto (tgt := 95) hX dX2_offsetOf_91 (by decide) (r_istore hX dX2_offsetOf_95 (by decide) rfl (r_iload_n hX dX2_offsetOf_97 rfl rfl (r_sipushZ hX dX2_offsetOf_98 (by decide +kernel) (r_imulZ hX dX2_offsetOf_101 (r_iload_n hX dX2_offsetOf_102 rfl rfl (r_bipushZ hX dX2_offsetOf_103 (by decide +kernel) ?_)))))))
                refine r_imulZ hX dX2_offsetOf_105 (r_iaddZ hX dX2_offsetOf_106 (r_iload hX dX2_offsetOf_107 rfl (r_iaddZ hX dX2_offsetOf_109 (r_istore hX dX2_offsetOf_110 (by decide) rfl (r_iload hX dX2_offsetOf_112 rfl (r_if_eqZ (tgt := 122) hX dX2_offsetOf_114 (by decide) (by decide) (fun q => absurd q (by decide)) (fun _ => ?_)))))))
                refine r_iload hX dX2_offsetOf_117 rfl (r_if_neZ (tgt := 137) hX dX2_offsetOf_119 (by decide) (by decide) (fun _ => ?_) (fun q => absurd (by decide) q))
                refine r_aload_n hX dX2_offsetOf_137 rfl rfl (r_callV hX (z_X2_refused ad cs S T rest) kv_X2_56 0 rfl rfl rfl rfl (Nat.le_of_ble_eq_true rfl) ⟨(Nat.le_of_ble_eq_true rfl), (Nat.le_of_ble_eq_true rfl)⟩ ⟨(Nat.le_of_ble_eq_true rfl), (Nat.le_of_ble_eq_true rfl)⟩ dX2_offsetOf_138 (fun _ _ z => False.elim z) (fun v9 ws9 h25 => ?_))
                obtain ⟨rfl, hw9⟩ := h25
                subst ws9
                dsimp only [mPush]
                refine r_iret hX hE dX2_offsetOf_141 (Nat.le_of_ble_eq_true rfl) (Nat.le_of_ble_eq_true rfl) ⟨by omega, ?_⟩
                unfold oOff
                rw [if_neg (by omega)]
                exact ⟨rfl, rfl⟩
              · refine r_iload hX dX2_offsetOf_85 rfl (r_if_geZ (tgt := 94) hX dX2_offsetOf_87 (by decide) (by first | with_reducible assumption | decide | omega) (fun c26 => ?_) (fun c26 => ?_))
                · refine r_iconstZ hX dX2_offsetOf_94 (r_istore hX dX2_offsetOf_95 (by decide) rfl (r_iload_n hX dX2_offsetOf_97 rfl rfl (r_sipushZ hX dX2_offsetOf_98 (by decide +kernel) (r_imulZ hX dX2_offsetOf_101 (r_iload_n hX dX2_offsetOf_102 rfl rfl (r_bipushZ hX dX2_offsetOf_103 (by decide +kernel) (r_imulZ hX dX2_offsetOf_105 ?_)))))))
                  refine r_iaddZ hX dX2_offsetOf_106 (r_iload hX dX2_offsetOf_107 rfl (r_iaddZ hX dX2_offsetOf_109 (r_istore hX dX2_offsetOf_110 (by decide) rfl (r_iload hX dX2_offsetOf_112 rfl (r_if_eqZ (tgt := 122) hX dX2_offsetOf_114 (by decide) (by decide) (fun q => absurd q (by decide)) (fun _ => ?_))))))
                  refine r_iload hX dX2_offsetOf_117 rfl (r_if_neZ (tgt := 137) hX dX2_offsetOf_119 (by decide) (by decide) (fun q => absurd q (by decide)) (fun _ => ?_))
                  refine r_iload hX dX2_offsetOf_122 rfl (r_i2lZ hX dX2_offsetOf_124 (by first | with_reducible assumption | decide | omega) (r_ldc2Z (z := -64800) hX kc_X2_60 (by decide +kernel) dX2_offsetOf_125 (r_ldc2Z (z := 64800) hX kc_X2_62 (by decide +kernel) dX2_offsetOf_128 (r_callS hX (z_X2_isWithin _ _ _ _ _ (by first | with_reducible assumption | decide | omega) (by first | with_reducible assumption | decide | omega) (by first | with_reducible assumption | decide | omega)) ks_X2_48 rfl rfl (Nat.le_of_ble_eq_true rfl) ⟨(Nat.le_of_ble_eq_true rfl), (Nat.le_of_ble_eq_true rfl)⟩ ⟨(Nat.le_of_ble_eq_true rfl), (Nat.le_of_ble_eq_true rfl)⟩ dX2_offsetOf_131 (fun _ _ z => False.elim z) (fun v9 ws9 h27 => ?_)))))
                  obtain ⟨rfl, hw9⟩ := h27
                  subst ws9
                  dsimp only [mPush]
                  refine r_if_neB (tgt := 142) hX dX2_offsetOf_134 (by decide) (fun c28 => ?_) (fun c28 => ?_)
                  · have c28 := of_decide_eq_true c28
                    refine r_aload_n hX dX2_offsetOf_142 rfl rfl (r_get hX kf_X2_9 0 rfl rfl dX2_offsetOf_143 (r_iload_n hX dX2_offsetOf_146 rfl rfl (r_iload hX dX2_offsetOf_147 rfl (r_iastZ hX 1 0 rfl rfl (a0).toNat (by first | with_reducible assumption | decide | omega) (by first | with_reducible assumption | decide | omega) (by decide) dX2_offsetOf_149 (r_eqw (zWd_off (j := (a0).toNat) (z := ((a1 * 3600) + (a2 * 60)) + a3)) (r_iload hX dX2_offsetOf_150 rfl (r_iret hX hE dX2_offsetOf_152 (Nat.le_of_ble_eq_true rfl) (Nat.le_of_ble_eq_true rfl) ⟨by omega, ?_⟩)))))))
                    unfold oOff
                    rw [if_pos (by omega)]
                    exact ⟨rfl, rfl⟩
                  · have c28 := of_decide_eq_false c28
                    refine r_aload_n hX dX2_offsetOf_137 rfl rfl (r_callV hX (z_X2_refused ad cs S T rest) kv_X2_56 0 rfl rfl rfl rfl (Nat.le_of_ble_eq_true rfl) ⟨(Nat.le_of_ble_eq_true rfl), (Nat.le_of_ble_eq_true rfl)⟩ ⟨(Nat.le_of_ble_eq_true rfl), (Nat.le_of_ble_eq_true rfl)⟩ dX2_offsetOf_138 (fun _ _ z => False.elim z) (fun v9 ws9 h29 => ?_))
                    obtain ⟨rfl, hw9⟩ := h29
                    subst ws9
                    dsimp only [mPush]
                    refine r_iret hX hE dX2_offsetOf_141 (Nat.le_of_ble_eq_true rfl) (Nat.le_of_ble_eq_true rfl) ⟨by omega, ?_⟩
                    unfold oOff
                    rw [if_neg (by omega)]
                    exact ⟨rfl, rfl⟩
                · refine r_iconstZ hX dX2_offsetOf_90 (r_goto (tgt := 95) hX dX2_offsetOf_91 (by decide) (r_istore hX dX2_offsetOf_95 (by decide) rfl (r_iload_n hX dX2_offsetOf_97 rfl rfl (r_sipushZ hX dX2_offsetOf_98 (by decide +kernel) (r_imulZ hX dX2_offsetOf_101 (r_iload_n hX dX2_offsetOf_102 rfl rfl (r_bipushZ hX dX2_offsetOf_103 (by decide +kernel) ?_)))))))
                  refine r_imulZ hX dX2_offsetOf_105 (r_iaddZ hX dX2_offsetOf_106 (r_iload hX dX2_offsetOf_107 rfl (r_iaddZ hX dX2_offsetOf_109 (r_istore hX dX2_offsetOf_110 (by decide) rfl (r_iload hX dX2_offsetOf_112 rfl (r_if_eqZ (tgt := 122) hX dX2_offsetOf_114 (by decide) (by decide) (fun q => absurd q (by decide)) (fun _ => ?_)))))))
                  refine r_iload hX dX2_offsetOf_117 rfl (r_if_neZ (tgt := 137) hX dX2_offsetOf_119 (by decide) (by decide) (fun _ => ?_) (fun q => absurd (by decide) q))
                  refine r_aload_n hX dX2_offsetOf_137 rfl rfl (r_callV hX (z_X2_refused ad cs S T rest) kv_X2_56 0 rfl rfl rfl rfl (Nat.le_of_ble_eq_true rfl) ⟨(Nat.le_of_ble_eq_true rfl), (Nat.le_of_ble_eq_true rfl)⟩ ⟨(Nat.le_of_ble_eq_true rfl), (Nat.le_of_ble_eq_true rfl)⟩ dX2_offsetOf_138 (fun _ _ z => False.elim z) (fun v9 ws9 h30 => ?_))
                  obtain ⟨rfl, hw9⟩ := h30
                  subst ws9
                  dsimp only [mPush]
                  refine r_iret hX hE dX2_offsetOf_141 (Nat.le_of_ble_eq_true rfl) (Nat.le_of_ble_eq_true rfl) ⟨by omega, ?_⟩
                  unfold oOff
                  rw [if_neg (by omega)]
                  exact ⟨rfl, rfl⟩
          · refine r_iload hX dX2_offsetOf_65 rfl (r_if_leZ (tgt := 74) hX dX2_offsetOf_67 (by decide) (by first | with_reducible assumption | decide | omega) (fun c31 => ?_) (fun c31 => ?_))
            · refine r_iconstZ hX dX2_offsetOf_74 (r_istore hX dX2_offsetOf_75 (by decide) rfl (r_iload_n hX dX2_offsetOf_77 rfl rfl (r_if_ltZ (tgt := 90) hX dX2_offsetOf_78 (by decide) (by first | with_reducible assumption | decide | omega) (fun c32 => ?_) (fun c32 => ?_))))
              · refine r_iconstZ hX dX2_offsetOf_90 (r_goto (tgt := 95) hX dX2_offsetOf_91 (by decide) (r_istore hX dX2_offsetOf_95 (by decide) rfl (r_iload_n hX dX2_offsetOf_97 rfl rfl (r_sipushZ hX dX2_offsetOf_98 (by decide +kernel) (r_imulZ hX dX2_offsetOf_101 (r_iload_n hX dX2_offsetOf_102 rfl rfl (r_bipushZ hX dX2_offsetOf_103 (by decide +kernel) ?_)))))))
                refine r_imulZ hX dX2_offsetOf_105 (r_iaddZ hX dX2_offsetOf_106 (r_iload hX dX2_offsetOf_107 rfl (r_iaddZ hX dX2_offsetOf_109 (r_istore hX dX2_offsetOf_110 (by decide) rfl (r_iload hX dX2_offsetOf_112 rfl (r_if_eqZ (tgt := 122) hX dX2_offsetOf_114 (by decide) (by decide) (fun _ => ?_) (fun q => absurd (by decide) q)))))))
                refine r_iload hX dX2_offsetOf_122 rfl (r_i2lZ hX dX2_offsetOf_124 (by first | with_reducible assumption | decide | omega) (r_ldc2Z (z := -64800) hX kc_X2_60 (by decide +kernel) dX2_offsetOf_125 (r_ldc2Z (z := 64800) hX kc_X2_62 (by decide +kernel) dX2_offsetOf_128 (r_callS hX (z_X2_isWithin _ _ _ _ _ (by first | with_reducible assumption | decide | omega) (by first | with_reducible assumption | decide | omega) (by first | with_reducible assumption | decide | omega)) ks_X2_48 rfl rfl (Nat.le_of_ble_eq_true rfl) ⟨(Nat.le_of_ble_eq_true rfl), (Nat.le_of_ble_eq_true rfl)⟩ ⟨(Nat.le_of_ble_eq_true rfl), (Nat.le_of_ble_eq_true rfl)⟩ dX2_offsetOf_131 (fun _ _ z => False.elim z) (fun v9 ws9 h33 => ?_)))))
                obtain ⟨rfl, hw9⟩ := h33
                subst ws9
                dsimp only [mPush]
                refine r_if_neB (tgt := 142) hX dX2_offsetOf_134 (by decide) (fun c34 => ?_) (fun c34 => ?_)
                · have c34 := of_decide_eq_true c34
                  refine r_aload_n hX dX2_offsetOf_142 rfl rfl (r_get hX kf_X2_9 0 rfl rfl dX2_offsetOf_143 (r_iload_n hX dX2_offsetOf_146 rfl rfl (r_iload hX dX2_offsetOf_147 rfl (r_iastZ hX 1 0 rfl rfl (a0).toNat (by first | with_reducible assumption | decide | omega) (by first | with_reducible assumption | decide | omega) (by decide) dX2_offsetOf_149 (r_eqw (zWd_off (j := (a0).toNat) (z := ((a1 * 3600) + (a2 * 60)) + a3)) (r_iload hX dX2_offsetOf_150 rfl (r_iret hX hE dX2_offsetOf_152 (Nat.le_of_ble_eq_true rfl) (Nat.le_of_ble_eq_true rfl) ⟨by omega, ?_⟩)))))))
                  unfold oOff
                  rw [if_pos (by omega)]
                  exact ⟨rfl, rfl⟩
                · have c34 := of_decide_eq_false c34
                  refine r_aload_n hX dX2_offsetOf_137 rfl rfl (r_callV hX (z_X2_refused ad cs S T rest) kv_X2_56 0 rfl rfl rfl rfl (Nat.le_of_ble_eq_true rfl) ⟨(Nat.le_of_ble_eq_true rfl), (Nat.le_of_ble_eq_true rfl)⟩ ⟨(Nat.le_of_ble_eq_true rfl), (Nat.le_of_ble_eq_true rfl)⟩ dX2_offsetOf_138 (fun _ _ z => False.elim z) (fun v9 ws9 h35 => ?_))
                  obtain ⟨rfl, hw9⟩ := h35
                  subst ws9
                  dsimp only [mPush]
                  refine r_iret hX hE dX2_offsetOf_141 (Nat.le_of_ble_eq_true rfl) (Nat.le_of_ble_eq_true rfl) ⟨by omega, ?_⟩
                  unfold oOff
                  rw [if_neg (by omega)]
                  exact ⟨rfl, rfl⟩
              · refine r_iload_n hX dX2_offsetOf_81 rfl rfl (r_if_ltZ (tgt := 90) hX dX2_offsetOf_82 (by decide) (by first | with_reducible assumption | decide | omega) (fun c36 => ?_) (fun c36 => ?_))
                · refine r_iconstZ hX dX2_offsetOf_90 (r_goto (tgt := 95) hX dX2_offsetOf_91 (by decide) (r_istore hX dX2_offsetOf_95 (by decide) rfl (r_iload_n hX dX2_offsetOf_97 rfl rfl (r_sipushZ hX dX2_offsetOf_98 (by decide +kernel) (r_imulZ hX dX2_offsetOf_101 (r_iload_n hX dX2_offsetOf_102 rfl rfl (r_bipushZ hX dX2_offsetOf_103 (by decide +kernel) ?_)))))))
                  refine r_imulZ hX dX2_offsetOf_105 (r_iaddZ hX dX2_offsetOf_106 (r_iload hX dX2_offsetOf_107 rfl (r_iaddZ hX dX2_offsetOf_109 (r_istore hX dX2_offsetOf_110 (by decide) rfl (r_iload hX dX2_offsetOf_112 rfl (r_if_eqZ (tgt := 122) hX dX2_offsetOf_114 (by decide) (by decide) (fun _ => ?_) (fun q => absurd (by decide) q)))))))
                  refine r_iload hX dX2_offsetOf_122 rfl (r_i2lZ hX dX2_offsetOf_124 (by first | with_reducible assumption | decide | omega) (r_ldc2Z (z := -64800) hX kc_X2_60 (by decide +kernel) dX2_offsetOf_125 (r_ldc2Z (z := 64800) hX kc_X2_62 (by decide +kernel) dX2_offsetOf_128 (r_callS hX (z_X2_isWithin _ _ _ _ _ (by first | with_reducible assumption | decide | omega) (by first | with_reducible assumption | decide | omega) (by first | with_reducible assumption | decide | omega)) ks_X2_48 rfl rfl (Nat.le_of_ble_eq_true rfl) ⟨(Nat.le_of_ble_eq_true rfl), (Nat.le_of_ble_eq_true rfl)⟩ ⟨(Nat.le_of_ble_eq_true rfl), (Nat.le_of_ble_eq_true rfl)⟩ dX2_offsetOf_131 (fun _ _ z => False.elim z) (fun v9 ws9 h37 => ?_)))))
                  obtain ⟨rfl, hw9⟩ := h37
                  subst ws9
                  dsimp only [mPush]
                  refine r_if_neB (tgt := 142) hX dX2_offsetOf_134 (by decide) (fun c38 => ?_) (fun c38 => ?_)
                  · have c38 := of_decide_eq_true c38
                    refine r_aload_n hX dX2_offsetOf_142 rfl rfl (r_get hX kf_X2_9 0 rfl rfl dX2_offsetOf_143 (r_iload_n hX dX2_offsetOf_146 rfl rfl (r_iload hX dX2_offsetOf_147 rfl (r_iastZ hX 1 0 rfl rfl (a0).toNat (by first | with_reducible assumption | decide | omega) (by first | with_reducible assumption | decide | omega) (by decide) dX2_offsetOf_149 (r_eqw (zWd_off (j := (a0).toNat) (z := ((a1 * 3600) + (a2 * 60)) + a3)) (r_iload hX dX2_offsetOf_150 rfl (r_iret hX hE dX2_offsetOf_152 (Nat.le_of_ble_eq_true rfl) (Nat.le_of_ble_eq_true rfl) ⟨by omega, ?_⟩)))))))
                    unfold oOff
                    rw [if_pos (by omega)]
                    exact ⟨rfl, rfl⟩
                  · have c38 := of_decide_eq_false c38
                    refine r_aload_n hX dX2_offsetOf_137 rfl rfl (r_callV hX (z_X2_refused ad cs S T rest) kv_X2_56 0 rfl rfl rfl rfl (Nat.le_of_ble_eq_true rfl) ⟨(Nat.le_of_ble_eq_true rfl), (Nat.le_of_ble_eq_true rfl)⟩ ⟨(Nat.le_of_ble_eq_true rfl), (Nat.le_of_ble_eq_true rfl)⟩ dX2_offsetOf_138 (fun _ _ z => False.elim z) (fun v9 ws9 h39 => ?_))
                    obtain ⟨rfl, hw9⟩ := h39
                    subst ws9
                    dsimp only [mPush]
                    refine r_iret hX hE dX2_offsetOf_141 (Nat.le_of_ble_eq_true rfl) (Nat.le_of_ble_eq_true rfl) ⟨by omega, ?_⟩
                    unfold oOff
                    rw [if_neg (by omega)]
                    exact ⟨rfl, rfl⟩
                · refine r_iload hX dX2_offsetOf_85 rfl (r_if_geZ (tgt := 94) hX dX2_offsetOf_87 (by decide) (by first | with_reducible assumption | decide | omega) (fun c40 => ?_) (fun c40 => ?_))
                  · refine r_iconstZ hX dX2_offsetOf_94 (r_istore hX dX2_offsetOf_95 (by decide) rfl (r_iload_n hX dX2_offsetOf_97 rfl rfl (r_sipushZ hX dX2_offsetOf_98 (by decide +kernel) (r_imulZ hX dX2_offsetOf_101 (r_iload_n hX dX2_offsetOf_102 rfl rfl (r_bipushZ hX dX2_offsetOf_103 (by decide +kernel) (r_imulZ hX dX2_offsetOf_105 ?_)))))))
                    refine r_iaddZ hX dX2_offsetOf_106 (r_iload hX dX2_offsetOf_107 rfl (r_iaddZ hX dX2_offsetOf_109 (r_istore hX dX2_offsetOf_110 (by decide) rfl (r_iload hX dX2_offsetOf_112 rfl (r_if_eqZ (tgt := 122) hX dX2_offsetOf_114 (by decide) (by decide) (fun _ => ?_) (fun q => absurd (by decide) q))))))
                    refine r_iload hX dX2_offsetOf_122 rfl (r_i2lZ hX dX2_offsetOf_124 (by first | with_reducible assumption | decide | omega) (r_ldc2Z (z := -64800) hX kc_X2_60 (by decide +kernel) dX2_offsetOf_125 (r_ldc2Z (z := 64800) hX kc_X2_62 (by decide +kernel) dX2_offsetOf_128 (r_callS hX (z_X2_isWithin _ _ _ _ _ (by first | with_reducible assumption | decide | omega) (by first | with_reducible assumption | decide | omega) (by first | with_reducible assumption | decide | omega)) ks_X2_48 rfl rfl (Nat.le_of_ble_eq_true rfl) ⟨(Nat.le_of_ble_eq_true rfl), (Nat.le_of_ble_eq_true rfl)⟩ ⟨(Nat.le_of_ble_eq_true rfl), (Nat.le_of_ble_eq_true rfl)⟩ dX2_offsetOf_131 (fun _ _ z => False.elim z) (fun v9 ws9 h41 => ?_)))))
                    obtain ⟨rfl, hw9⟩ := h41
                    subst ws9
                    dsimp only [mPush]
                    refine r_if_neB (tgt := 142) hX dX2_offsetOf_134 (by decide) (fun c42 => ?_) (fun c42 => ?_)
                    · have c42 := of_decide_eq_true c42
                      refine r_aload_n hX dX2_offsetOf_142 rfl rfl (r_get hX kf_X2_9 0 rfl rfl dX2_offsetOf_143 (r_iload_n hX dX2_offsetOf_146 rfl rfl (r_iload hX dX2_offsetOf_147 rfl (r_iastZ hX 1 0 rfl rfl (a0).toNat (by first | with_reducible assumption | decide | omega) (by first | with_reducible assumption | decide | omega) (by decide) dX2_offsetOf_149 (r_eqw (zWd_off (j := (a0).toNat) (z := ((a1 * 3600) + (a2 * 60)) + a3)) (r_iload hX dX2_offsetOf_150 rfl (r_iret hX hE dX2_offsetOf_152 (Nat.le_of_ble_eq_true rfl) (Nat.le_of_ble_eq_true rfl) ⟨by omega, ?_⟩)))))))
                      unfold oOff
                      rw [if_pos (by omega)]
                      exact ⟨rfl, rfl⟩
                    · have c42 := of_decide_eq_false c42
                      refine r_aload_n hX dX2_offsetOf_137 rfl rfl (r_callV hX (z_X2_refused ad cs S T rest) kv_X2_56 0 rfl rfl rfl rfl (Nat.le_of_ble_eq_true rfl) ⟨(Nat.le_of_ble_eq_true rfl), (Nat.le_of_ble_eq_true rfl)⟩ ⟨(Nat.le_of_ble_eq_true rfl), (Nat.le_of_ble_eq_true rfl)⟩ dX2_offsetOf_138 (fun _ _ z => False.elim z) (fun v9 ws9 h43 => ?_))
                      obtain ⟨rfl, hw9⟩ := h43
                      subst ws9
                      dsimp only [mPush]
                      refine r_iret hX hE dX2_offsetOf_141 (Nat.le_of_ble_eq_true rfl) (Nat.le_of_ble_eq_true rfl) ⟨by omega, ?_⟩
                      unfold oOff
                      rw [if_neg (by omega)]
                      exact ⟨rfl, rfl⟩
                  · refine r_iconstZ hX dX2_offsetOf_90 (r_goto (tgt := 95) hX dX2_offsetOf_91 (by decide) (r_istore hX dX2_offsetOf_95 (by decide) rfl (r_iload_n hX dX2_offsetOf_97 rfl rfl (r_sipushZ hX dX2_offsetOf_98 (by decide +kernel) (r_imulZ hX dX2_offsetOf_101 (r_iload_n hX dX2_offsetOf_102 rfl rfl (r_bipushZ hX dX2_offsetOf_103 (by decide +kernel) ?_)))))))
                    refine r_imulZ hX dX2_offsetOf_105 (r_iaddZ hX dX2_offsetOf_106 (r_iload hX dX2_offsetOf_107 rfl (r_iaddZ hX dX2_offsetOf_109 (r_istore hX dX2_offsetOf_110 (by decide) rfl (r_iload hX dX2_offsetOf_112 rfl (r_if_eqZ (tgt := 122) hX dX2_offsetOf_114 (by decide) (by decide) (fun _ => ?_) (fun q => absurd (by decide) q)))))))
                    refine r_iload hX dX2_offsetOf_122 rfl (r_i2lZ hX dX2_offsetOf_124 (by first | with_reducible assumption | decide | omega) (r_ldc2Z (z := -64800) hX kc_X2_60 (by decide +kernel) dX2_offsetOf_125 (r_ldc2Z (z := 64800) hX kc_X2_62 (by decide +kernel) dX2_offsetOf_128 (r_callS hX (z_X2_isWithin _ _ _ _ _ (by first | with_reducible assumption | decide | omega) (by first | with_reducible assumption | decide | omega) (by first | with_reducible assumption | decide | omega)) ks_X2_48 rfl rfl (Nat.le_of_ble_eq_true rfl) ⟨(Nat.le_of_ble_eq_true rfl), (Nat.le_of_ble_eq_true rfl)⟩ ⟨(Nat.le_of_ble_eq_true rfl), (Nat.le_of_ble_eq_true rfl)⟩ dX2_offsetOf_131 (fun _ _ z => False.elim z) (fun v9 ws9 h44 => ?_)))))
                    obtain ⟨rfl, hw9⟩ := h44
                    subst ws9
                    dsimp only [mPush]
                    refine r_if_neB (tgt := 142) hX dX2_offsetOf_134 (by decide) (fun c45 => ?_) (fun c45 => ?_)
                    · have c45 := of_decide_eq_true c45
                      refine r_aload_n hX dX2_offsetOf_142 rfl rfl (r_get hX kf_X2_9 0 rfl rfl dX2_offsetOf_143 (r_iload_n hX dX2_offsetOf_146 rfl rfl (r_iload hX dX2_offsetOf_147 rfl (r_iastZ hX 1 0 rfl rfl (a0).toNat (by first | with_reducible assumption | decide | omega) (by first | with_reducible assumption | decide | omega) (by decide) dX2_offsetOf_149 (r_eqw (zWd_off (j := (a0).toNat) (z := ((a1 * 3600) + (a2 * 60)) + a3)) (r_iload hX dX2_offsetOf_150 rfl (r_iret hX hE dX2_offsetOf_152 (Nat.le_of_ble_eq_true rfl) (Nat.le_of_ble_eq_true rfl) ⟨by omega, ?_⟩)))))))
                      unfold oOff
                      rw [if_pos (by omega)]
                      exact ⟨rfl, rfl⟩
                    · have c45 := of_decide_eq_false c45
                      refine r_aload_n hX dX2_offsetOf_137 rfl rfl (r_callV hX (z_X2_refused ad cs S T rest) kv_X2_56 0 rfl rfl rfl rfl (Nat.le_of_ble_eq_true rfl) ⟨(Nat.le_of_ble_eq_true rfl), (Nat.le_of_ble_eq_true rfl)⟩ ⟨(Nat.le_of_ble_eq_true rfl), (Nat.le_of_ble_eq_true rfl)⟩ dX2_offsetOf_138 (fun _ _ z => False.elim z) (fun v9 ws9 h46 => ?_))
                      obtain ⟨rfl, hw9⟩ := h46
                      subst ws9
                      dsimp only [mPush]
                      refine r_iret hX hE dX2_offsetOf_141 (Nat.le_of_ble_eq_true rfl) (Nat.le_of_ble_eq_true rfl) ⟨by omega, ?_⟩
                      unfold oOff
                      rw [if_neg (by omega)]
                      exact ⟨rfl, rfl⟩
            · refine r_iconstZ hX dX2_offsetOf_70 (r_goto (tgt := 75) hX dX2_offsetOf_71 (by decide) (r_istore hX dX2_offsetOf_75 (by decide) rfl (r_iload_n hX dX2_offsetOf_77 rfl rfl (r_if_ltZ (tgt := 90) hX dX2_offsetOf_78 (by decide) (by first | with_reducible assumption | decide | omega) (fun c47 => ?_) (fun c47 => ?_)))))
              · refine r_iconstZ hX dX2_offsetOf_90 (r_goto (tgt := 95) hX dX2_offsetOf_91 (by decide) (r_istore hX dX2_offsetOf_95 (by decide) rfl (r_iload_n hX dX2_offsetOf_97 rfl rfl (r_sipushZ hX dX2_offsetOf_98 (by decide +kernel) (r_imulZ hX dX2_offsetOf_101 (r_iload_n hX dX2_offsetOf_102 rfl rfl (r_bipushZ hX dX2_offsetOf_103 (by decide +kernel) ?_)))))))
                refine r_imulZ hX dX2_offsetOf_105 (r_iaddZ hX dX2_offsetOf_106 (r_iload hX dX2_offsetOf_107 rfl (r_iaddZ hX dX2_offsetOf_109 (r_istore hX dX2_offsetOf_110 (by decide) rfl (r_iload hX dX2_offsetOf_112 rfl (r_if_eqZ (tgt := 122) hX dX2_offsetOf_114 (by decide) (by decide) (fun q => absurd q (by decide)) (fun _ => ?_)))))))
                refine r_iload hX dX2_offsetOf_117 rfl (r_if_neZ (tgt := 137) hX dX2_offsetOf_119 (by decide) (by decide) (fun _ => ?_) (fun q => absurd (by decide) q))
                refine r_aload_n hX dX2_offsetOf_137 rfl rfl (r_callV hX (z_X2_refused ad cs S T rest) kv_X2_56 0 rfl rfl rfl rfl (Nat.le_of_ble_eq_true rfl) ⟨(Nat.le_of_ble_eq_true rfl), (Nat.le_of_ble_eq_true rfl)⟩ ⟨(Nat.le_of_ble_eq_true rfl), (Nat.le_of_ble_eq_true rfl)⟩ dX2_offsetOf_138 (fun _ _ z => False.elim z) (fun v9 ws9 h48 => ?_))
                obtain ⟨rfl, hw9⟩ := h48
                subst ws9
                dsimp only [mPush]
                refine r_iret hX hE dX2_offsetOf_141 (Nat.le_of_ble_eq_true rfl) (Nat.le_of_ble_eq_true rfl) ⟨by omega, ?_⟩
                unfold oOff
                rw [if_neg (by omega)]
                exact ⟨rfl, rfl⟩
              · refine r_iload_n hX dX2_offsetOf_81 rfl rfl (r_if_ltZ (tgt := 90) hX dX2_offsetOf_82 (by decide) (by first | with_reducible assumption | decide | omega) (fun c49 => ?_) (fun c49 => ?_))
                · refine r_iconstZ hX dX2_offsetOf_90 (r_goto (tgt := 95) hX dX2_offsetOf_91 (by decide) (r_istore hX dX2_offsetOf_95 (by decide) rfl (r_iload_n hX dX2_offsetOf_97 rfl rfl (r_sipushZ hX dX2_offsetOf_98 (by decide +kernel) (r_imulZ hX dX2_offsetOf_101 (r_iload_n hX dX2_offsetOf_102 rfl rfl (r_bipushZ hX dX2_offsetOf_103 (by decide +kernel) ?_)))))))
                  refine r_imulZ hX dX2_offsetOf_105 (r_iaddZ hX dX2_offsetOf_106 (r_iload hX dX2_offsetOf_107 rfl (r_iaddZ hX dX2_offsetOf_109 (r_istore hX dX2_offsetOf_110 (by decide) rfl (r_iload hX dX2_offsetOf_112 rfl (r_if_eqZ (tgt := 122) hX dX2_offsetOf_114 (by decide) (by decide) (fun q => absurd q (by decide)) (fun _ => ?_)))))))
                  refine r_iload hX dX2_offsetOf_117 rfl (r_if_neZ (tgt := 137) hX dX2_offsetOf_119 (by decide) (by decide) (fun _ => ?_) (fun q => absurd (by decide) q))
                  refine r_aload_n hX dX2_offsetOf_137 rfl rfl (r_callV hX (z_X2_refused ad cs S T rest) kv_X2_56 0 rfl rfl rfl rfl (Nat.le_of_ble_eq_true rfl) ⟨(Nat.le_of_ble_eq_true rfl), (Nat.le_of_ble_eq_true rfl)⟩ ⟨(Nat.le_of_ble_eq_true rfl), (Nat.le_of_ble_eq_true rfl)⟩ dX2_offsetOf_138 (fun _ _ z => False.elim z) (fun v9 ws9 h50 => ?_))
                  obtain ⟨rfl, hw9⟩ := h50
                  subst ws9
                  dsimp only [mPush]
                  refine r_iret hX hE dX2_offsetOf_141 (Nat.le_of_ble_eq_true rfl) (Nat.le_of_ble_eq_true rfl) ⟨by omega, ?_⟩
                  unfold oOff
                  rw [if_neg (by omega)]
                  exact ⟨rfl, rfl⟩
                · refine r_iload hX dX2_offsetOf_85 rfl (r_if_geZ (tgt := 94) hX dX2_offsetOf_87 (by decide) (by first | with_reducible assumption | decide | omega) (fun c51 => ?_) (fun c51 => ?_))
                  · refine r_iconstZ hX dX2_offsetOf_94 (r_istore hX dX2_offsetOf_95 (by decide) rfl (r_iload_n hX dX2_offsetOf_97 rfl rfl (r_sipushZ hX dX2_offsetOf_98 (by decide +kernel) (r_imulZ hX dX2_offsetOf_101 (r_iload_n hX dX2_offsetOf_102 rfl rfl (r_bipushZ hX dX2_offsetOf_103 (by decide +kernel) (r_imulZ hX dX2_offsetOf_105 ?_)))))))
                    refine r_iaddZ hX dX2_offsetOf_106 (r_iload hX dX2_offsetOf_107 rfl (r_iaddZ hX dX2_offsetOf_109 (r_istore hX dX2_offsetOf_110 (by decide) rfl (r_iload hX dX2_offsetOf_112 rfl (r_if_eqZ (tgt := 122) hX dX2_offsetOf_114 (by decide) (by decide) (fun q => absurd q (by decide)) (fun _ => ?_))))))
                    refine r_iload hX dX2_offsetOf_117 rfl (r_if_neZ (tgt := 137) hX dX2_offsetOf_119 (by decide) (by decide) (fun q => absurd q (by decide)) (fun _ => ?_))
                    refine r_iload hX dX2_offsetOf_122 rfl (r_i2lZ hX dX2_offsetOf_124 (by first | with_reducible assumption | decide | omega) (r_ldc2Z (z := -64800) hX kc_X2_60 (by decide +kernel) dX2_offsetOf_125 (r_ldc2Z (z := 64800) hX kc_X2_62 (by decide +kernel) dX2_offsetOf_128 (r_callS hX (z_X2_isWithin _ _ _ _ _ (by first | with_reducible assumption | decide | omega) (by first | with_reducible assumption | decide | omega) (by first | with_reducible assumption | decide | omega)) ks_X2_48 rfl rfl (Nat.le_of_ble_eq_true rfl) ⟨(Nat.le_of_ble_eq_true rfl), (Nat.le_of_ble_eq_true rfl)⟩ ⟨(Nat.le_of_ble_eq_true rfl), (Nat.le_of_ble_eq_true rfl)⟩ dX2_offsetOf_131 (fun _ _ z => False.elim z) (fun v9 ws9 h52 => ?_)))))
                    obtain ⟨rfl, hw9⟩ := h52
                    subst ws9
                    dsimp only [mPush]
                    refine r_if_neB (tgt := 142) hX dX2_offsetOf_134 (by decide) (fun c53 => ?_) (fun c53 => ?_)
                    · have c53 := of_decide_eq_true c53
                      refine r_aload_n hX dX2_offsetOf_142 rfl rfl (r_get hX kf_X2_9 0 rfl rfl dX2_offsetOf_143 (r_iload_n hX dX2_offsetOf_146 rfl rfl (r_iload hX dX2_offsetOf_147 rfl (r_iastZ hX 1 0 rfl rfl (a0).toNat (by first | with_reducible assumption | decide | omega) (by first | with_reducible assumption | decide | omega) (by decide) dX2_offsetOf_149 (r_eqw (zWd_off (j := (a0).toNat) (z := ((a1 * 3600) + (a2 * 60)) + a3)) (r_iload hX dX2_offsetOf_150 rfl (r_iret hX hE dX2_offsetOf_152 (Nat.le_of_ble_eq_true rfl) (Nat.le_of_ble_eq_true rfl) ⟨by omega, ?_⟩)))))))
                      unfold oOff
                      rw [if_pos (by omega)]
                      exact ⟨rfl, rfl⟩
                    · have c53 := of_decide_eq_false c53
                      refine r_aload_n hX dX2_offsetOf_137 rfl rfl (r_callV hX (z_X2_refused ad cs S T rest) kv_X2_56 0 rfl rfl rfl rfl (Nat.le_of_ble_eq_true rfl) ⟨(Nat.le_of_ble_eq_true rfl), (Nat.le_of_ble_eq_true rfl)⟩ ⟨(Nat.le_of_ble_eq_true rfl), (Nat.le_of_ble_eq_true rfl)⟩ dX2_offsetOf_138 (fun _ _ z => False.elim z) (fun v9 ws9 h54 => ?_))
                      obtain ⟨rfl, hw9⟩ := h54
                      subst ws9
                      dsimp only [mPush]
                      refine r_iret hX hE dX2_offsetOf_141 (Nat.le_of_ble_eq_true rfl) (Nat.le_of_ble_eq_true rfl) ⟨by omega, ?_⟩
                      unfold oOff
                      rw [if_neg (by omega)]
                      exact ⟨rfl, rfl⟩
                  · refine r_iconstZ hX dX2_offsetOf_90 (r_goto (tgt := 95) hX dX2_offsetOf_91 (by decide) (r_istore hX dX2_offsetOf_95 (by decide) rfl (r_iload_n hX dX2_offsetOf_97 rfl rfl (r_sipushZ hX dX2_offsetOf_98 (by decide +kernel) (r_imulZ hX dX2_offsetOf_101 (r_iload_n hX dX2_offsetOf_102 rfl rfl (r_bipushZ hX dX2_offsetOf_103 (by decide +kernel) ?_)))))))
                    refine r_imulZ hX dX2_offsetOf_105 (r_iaddZ hX dX2_offsetOf_106 (r_iload hX dX2_offsetOf_107 rfl (r_iaddZ hX dX2_offsetOf_109 (r_istore hX dX2_offsetOf_110 (by decide) rfl (r_iload hX dX2_offsetOf_112 rfl (r_if_eqZ (tgt := 122) hX dX2_offsetOf_114 (by decide) (by decide) (fun q => absurd q (by decide)) (fun _ => ?_)))))))
                    refine r_iload hX dX2_offsetOf_117 rfl (r_if_neZ (tgt := 137) hX dX2_offsetOf_119 (by decide) (by decide) (fun _ => ?_) (fun q => absurd (by decide) q))
                    refine r_aload_n hX dX2_offsetOf_137 rfl rfl (r_callV hX (z_X2_refused ad cs S T rest) kv_X2_56 0 rfl rfl rfl rfl (Nat.le_of_ble_eq_true rfl) ⟨(Nat.le_of_ble_eq_true rfl), (Nat.le_of_ble_eq_true rfl)⟩ ⟨(Nat.le_of_ble_eq_true rfl), (Nat.le_of_ble_eq_true rfl)⟩ dX2_offsetOf_138 (fun _ _ z => False.elim z) (fun v9 ws9 h55 => ?_))
                    obtain ⟨rfl, hw9⟩ := h55
                    subst ws9
                    dsimp only [mPush]
                    refine r_iret hX hE dX2_offsetOf_141 (Nat.le_of_ble_eq_true rfl) (Nat.le_of_ble_eq_true rfl) ⟨by omega, ?_⟩
                    unfold oOff
                    rw [if_neg (by omega)]
                    exact ⟨rfl, rfl⟩
      · have c10 := of_decide_eq_false c10
        refine r_aload_n hX dX2_offsetOf_52 rfl rfl (r_callV hX (z_X2_refused ad cs S T rest) kv_X2_56 0 rfl rfl rfl rfl (Nat.le_of_ble_eq_true rfl) ⟨(Nat.le_of_ble_eq_true rfl), (Nat.le_of_ble_eq_true rfl)⟩ ⟨(Nat.le_of_ble_eq_true rfl), (Nat.le_of_ble_eq_true rfl)⟩ dX2_offsetOf_53 (fun _ _ z => False.elim z) (fun v9 ws9 h56 => ?_))
        obtain ⟨rfl, hw9⟩ := h56
        subst ws9
        dsimp only [mPush]
        refine r_iret hX hE dX2_offsetOf_56 (Nat.le_of_ble_eq_true rfl) (Nat.le_of_ble_eq_true rfl) ⟨by omega, ?_⟩
        unfold oOff
        rw [if_neg (by omega)]
        exact ⟨rfl, rfl⟩
set_option maxHeartbeats 4000000 in
set_option maxRecDepth 20000 in
theorem z_X2_orderOffset (ad : Nat → Nat) (cs : ClassId × ClassId × ClassId) (S : mS) (T : mT2) (rest : va_W) (hS : sWF S) (a0 : Int) (h0 : rJ a0) (a1 : Int) (h1 : rJ a1)  : mCt (mTy cs) yX2_orderOffset cX2_orderOffset 3 (some .int) ⟨8, 2, 12, 124⟩ [.ref (ad 0), .int (iZ a0), .int (iZ a1)] (mWd ad cs (mKof S T) rest) (fun v ws' => (((0 ≤ a0 ∧ a0 < 4) ∧ (0 ≤ a1 ∧ a1 < 4)) ∧ (0 ≤ (0 : Int))) ∧ v = some (.int (iZ (cmpZ (sof S a1.toNat) (sof S a0.toNat)))) ∧ ws' = mWd ad cs (mKof S T) rest) (fun E ws' => ws' = mWd ad cs (mKof S T) rest ∧ ((E = xI ∧ ¬ ((0 ≤ a0 ∧ a0 < 4) ∧ (0 ≤ a1 ∧ a1 < 4))) ∨ (E = xA ∧ ((0 ≤ a0 ∧ a0 < 4) ∧ (0 ≤ a1 ∧ a1 < 4)) ∧ ¬ (0 ≤ (0 : Int))))) := by
  refine mCt.of (by decide +kernel) (Nat.le_of_ble_eq_true rfl) (fun X hX hE => ?_)
  replace hX : mOK X RX2 cX2_orderOffset 3 ⟨8, 2, 12, 124⟩ [] (mTy cs) := hX
  refine r_aload_n hX dX2_orderOffset_0 rfl rfl (r_iload_n hX dX2_orderOffset_1 rfl rfl (r_callV hX (z_X2_seconds ad cs S T rest hS _ (by first | with_reducible assumption | decide | omega)) kv_X2_64 0 rfl rfl rfl rfl (Nat.le_of_ble_eq_true rfl) ⟨(Nat.le_of_ble_eq_true rfl), (Nat.le_of_ble_eq_true rfl)⟩ ⟨(Nat.le_of_ble_eq_true rfl), (Nat.le_of_ble_eq_true rfl)⟩ dX2_orderOffset_2 (fun E ws9 z => r_out hX hE (Nat.le_of_ble_eq_true rfl) (Nat.le_of_ble_eq_true rfl) ⟨z.2.1, Or.inl ⟨z.1, fun q => z.2.2 (by first | with_reducible assumption | decide | omega)⟩⟩) (fun v9 ws9 h1 => ?_)))
  obtain ⟨hi2, rfl, hw9⟩ := h1
  subst ws9
  dsimp only [mPush]
  have hof2 := hS.1 a1.toNat (by omega)
  refine r_i2lZ hX dX2_orderOffset_5 (by first | with_reducible assumption | decide | omega) (r_aload_n hX dX2_orderOffset_6 rfl rfl (r_iload_n hX dX2_orderOffset_7 rfl rfl (r_callV hX (z_X2_seconds ad cs S T rest hS _ (by first | with_reducible assumption | decide | omega)) kv_X2_64 0 rfl rfl rfl rfl (Nat.le_of_ble_eq_true rfl) ⟨(Nat.le_of_ble_eq_true rfl), (Nat.le_of_ble_eq_true rfl)⟩ ⟨(Nat.le_of_ble_eq_true rfl), (Nat.le_of_ble_eq_true rfl)⟩ dX2_orderOffset_8 (fun E ws9 z => r_out hX hE (Nat.le_of_ble_eq_true rfl) (Nat.le_of_ble_eq_true rfl) ⟨z.2.1, Or.inl ⟨z.1, fun q => z.2.2 (by first | with_reducible assumption | decide | omega)⟩⟩) (fun v9 ws9 h3 => ?_))))
  obtain ⟨hi4, rfl, hw9⟩ := h3
  subst ws9
  dsimp only [mPush]
  have hof4 := hS.1 a0.toNat (by omega)
  refine r_i2lZ hX dX2_orderOffset_11 (by first | with_reducible assumption | decide | omega) (r_callS hX (z_X2_compared _ _ _ _ (by first | with_reducible assumption | decide | omega) (by first | with_reducible assumption | decide | omega)) ks_X2_68 rfl rfl (Nat.le_of_ble_eq_true rfl) ⟨(Nat.le_of_ble_eq_true rfl), (Nat.le_of_ble_eq_true rfl)⟩ ⟨(Nat.le_of_ble_eq_true rfl), (Nat.le_of_ble_eq_true rfl)⟩ dX2_orderOffset_12 (fun _ _ z => False.elim z) (fun v9 ws9 h5 => ?_))
  obtain ⟨rfl, hw9⟩ := h5
  subst ws9
  dsimp only [mPush]
  have hcm5 := cmpZ_b (sof S a1.toNat) (sof S a0.toNat)
  refine r_iret hX hE dX2_orderOffset_15 (Nat.le_of_ble_eq_true rfl) (Nat.le_of_ble_eq_true rfl) ⟨by omega, zi ?_, rfl⟩
  rfl
set_option maxHeartbeats 4000000 in
set_option maxRecDepth 20000 in
theorem z_X2_moment (ad : Nat → Nat) (cs : ClassId × ClassId × ClassId) (S : mS) (T : mT2) (rest : va_W) (hS : sWF S) (a0 : Int) (h0 : rJ a0) (a1 : Int) (h1 : rJ a1) (a2 : Int) (h2 : rJ a2)  : mCt (mTy cs) yX2_moment cX2_moment 4 (some .int) ⟨7, 1, 6, 103⟩ [.ref (ad 0), .int (iZ a0), .int (iZ a1), .int (iZ a2)] (mWd ad cs (mKof S T) rest) (fun v ws' => (((0 ≤ a0 ∧ a0 < 4)) ∧ (0 ≤ (0 : Int))) ∧ v = some (.int (iZ (oNum S a0.toNat (a1 * 1000000000 + a2)).1)) ∧ ws' = mWd ad cs (mKof (oNum S a0.toNat (a1 * 1000000000 + a2)).2 T) rest) (fun E ws' => ws' = mWd ad cs (mKof S T) rest ∧ ((E = xI ∧ ¬ ((0 ≤ a0 ∧ a0 < 4))) ∨ (E = xA ∧ ((0 ≤ a0 ∧ a0 < 4)) ∧ ¬ (0 ≤ (0 : Int))))) := by
  refine mCt.of (by decide +kernel) (Nat.le_of_ble_eq_true rfl) (fun X hX hE => ?_)
  replace hX : mOK X RX2 cX2_moment 4 ⟨7, 1, 6, 103⟩ [] (mTy cs) := hX
  refine r_iload_n hX dX2_moment_0 rfl rfl (r_aload_n hX dX2_moment_1 rfl rfl (r_get hX kf_X2_13 0 rfl rfl dX2_moment_2 (r_alen (v := iZ 4) hX 2 1 rfl rfl rfl dX2_moment_5 (r_callS hX (z_X2_requireOne _ _ _ 4 (by first | with_reducible assumption | decide | omega) (by decide)) ks_X2_34 rfl rfl (Nat.le_of_ble_eq_true rfl) ⟨(Nat.le_of_ble_eq_true rfl), (Nat.le_of_ble_eq_true rfl)⟩ ⟨(Nat.le_of_ble_eq_true rfl), (Nat.le_of_ble_eq_true rfl)⟩ dX2_moment_6 (fun E ws9 z => r_out hX hE (Nat.le_of_ble_eq_true rfl) (Nat.le_of_ble_eq_true rfl) ⟨z.2.1, Or.inl ⟨z.1, fun q => z.2.2 (by first | with_reducible assumption | decide | omega)⟩⟩) (fun v9 ws9 h1 => ?_)))))
  obtain ⟨hi2, rfl, hw9⟩ := h1
  subst ws9
  dsimp only [mPush]
  refine r_aload_n hX dX2_moment_9 rfl rfl (r_iload_n hX dX2_moment_10 rfl rfl (r_iload_n hX dX2_moment_11 rfl rfl (r_i2lZ hX dX2_moment_12 (by first | with_reducible assumption | decide | omega) (r_ldc2Z (z := 1000000000) hX kc_X2_72 (by decide +kernel) dX2_moment_13 (r_lmulZ hX dX2_moment_16 (r_iload_n hX dX2_moment_17 rfl rfl (r_i2lZ hX dX2_moment_18 (by first | with_reducible assumption | decide | omega) ?_)))))))
  refine r_laddZ hX dX2_moment_19 (r_callV hX (z_X2_putNumber ad cs S T rest hS _ (a0).toNat (by first | with_reducible assumption | decide | omega) (by first | with_reducible assumption | decide | omega) _ (by first | with_reducible assumption | decide | omega)) kv_X2_74 0 rfl rfl rfl rfl (Nat.le_of_ble_eq_true rfl) ⟨(Nat.le_of_ble_eq_true rfl), (Nat.le_of_ble_eq_true rfl)⟩ ⟨(Nat.le_of_ble_eq_true rfl), (Nat.le_of_ble_eq_true rfl)⟩ dX2_moment_20 (fun _ _ z => False.elim z) (fun v9 ws9 h3 => ?_))
  obtain ⟨rfl, hw9⟩ := h3
  subst ws9
  dsimp only [mPush]
  refine r_iret hX hE dX2_moment_23 (Nat.le_of_ble_eq_true rfl) (Nat.le_of_ble_eq_true rfl) ⟨by omega, ?_⟩
  exact ⟨rfl, rfl⟩
set_option maxHeartbeats 4000000 in
set_option maxRecDepth 20000 in
theorem z_X2_milli (ad : Nat → Nat) (cs : ClassId × ClassId × ClassId) (S : mS) (T : mT2) (rest : va_W) (hS : sWF S) (a0 : Int) (h0 : rJ a0) (a1 : Int) (h1 : rJ a1) (a2 : Int) (h2 : rJ a2)  : mCt (mTy cs) yX2_milli cX2_milli 4 (some .int) ⟨7, 1, 6, 103⟩ [.ref (ad 0), .int (iZ a0), .int (iZ a1), .int (iZ a2)] (mWd ad cs (mKof S T) rest) (fun v ws' => (((0 ≤ a0 ∧ a0 < 4)) ∧ (0 ≤ (0 : Int))) ∧ v = some (.int (iZ (oNum S a0.toNat (a1 * 1000000000 + a2 * 1000000)).1)) ∧ ws' = mWd ad cs (mKof (oNum S a0.toNat (a1 * 1000000000 + a2 * 1000000)).2 T) rest) (fun E ws' => ws' = mWd ad cs (mKof S T) rest ∧ ((E = xI ∧ ¬ ((0 ≤ a0 ∧ a0 < 4))) ∨ (E = xA ∧ ((0 ≤ a0 ∧ a0 < 4)) ∧ ¬ (0 ≤ (0 : Int))))) := by
  refine mCt.of (by decide +kernel) (Nat.le_of_ble_eq_true rfl) (fun X hX hE => ?_)
  replace hX : mOK X RX2 cX2_milli 4 ⟨7, 1, 6, 103⟩ [] (mTy cs) := hX
  refine r_iload_n hX dX2_milli_0 rfl rfl (r_aload_n hX dX2_milli_1 rfl rfl (r_get hX kf_X2_13 0 rfl rfl dX2_milli_2 (r_alen (v := iZ 4) hX 2 1 rfl rfl rfl dX2_milli_5 (r_callS hX (z_X2_requireOne _ _ _ 4 (by first | with_reducible assumption | decide | omega) (by decide)) ks_X2_34 rfl rfl (Nat.le_of_ble_eq_true rfl) ⟨(Nat.le_of_ble_eq_true rfl), (Nat.le_of_ble_eq_true rfl)⟩ ⟨(Nat.le_of_ble_eq_true rfl), (Nat.le_of_ble_eq_true rfl)⟩ dX2_milli_6 (fun E ws9 z => r_out hX hE (Nat.le_of_ble_eq_true rfl) (Nat.le_of_ble_eq_true rfl) ⟨z.2.1, Or.inl ⟨z.1, fun q => z.2.2 (by first | with_reducible assumption | decide | omega)⟩⟩) (fun v9 ws9 h1 => ?_)))))
  obtain ⟨hi2, rfl, hw9⟩ := h1
  subst ws9
  dsimp only [mPush]
  refine r_aload_n hX dX2_milli_9 rfl rfl (r_iload_n hX dX2_milli_10 rfl rfl (r_iload_n hX dX2_milli_11 rfl rfl (r_i2lZ hX dX2_milli_12 (by first | with_reducible assumption | decide | omega) (r_ldc2Z (z := 1000000000) hX kc_X2_72 (by decide +kernel) dX2_milli_13 (r_lmulZ hX dX2_milli_16 (r_iload_n hX dX2_milli_17 rfl rfl (r_i2lZ hX dX2_milli_18 (by first | with_reducible assumption | decide | omega) ?_)))))))
  refine r_ldc2Z (z := 1000000) hX kc_X2_78 (by decide +kernel) dX2_milli_19 (r_lmulZ hX dX2_milli_22 (r_laddZ hX dX2_milli_23 (r_callV hX (z_X2_putNumber ad cs S T rest hS _ (a0).toNat (by first | with_reducible assumption | decide | omega) (by first | with_reducible assumption | decide | omega) _ (by first | with_reducible assumption | decide | omega)) kv_X2_74 0 rfl rfl rfl rfl (Nat.le_of_ble_eq_true rfl) ⟨(Nat.le_of_ble_eq_true rfl), (Nat.le_of_ble_eq_true rfl)⟩ ⟨(Nat.le_of_ble_eq_true rfl), (Nat.le_of_ble_eq_true rfl)⟩ dX2_milli_24 (fun _ _ z => False.elim z) (fun v9 ws9 h3 => ?_))))
  obtain ⟨rfl, hw9⟩ := h3
  subst ws9
  dsimp only [mPush]
  refine r_iret hX hE dX2_milli_27 (Nat.le_of_ble_eq_true rfl) (Nat.le_of_ble_eq_true rfl) ⟨by omega, ?_⟩
  exact ⟨rfl, rfl⟩
def zUn (u : Int) : Int := if u = 0 then 1000000000 else if u = 1 then 1000000 else 1
def zIs (c w : Int) : Bool := if w = 0 then decide (c < 0) else if w = 1 then decide (0 < c) else decide (c = 0)
def oDate (S : mS) (d : Nat) (y dy s n o : Int) : Int × mS := if (1910 ≤ y ∧ y ≤ 2030) ∧ (1 ≤ dy / 100 ∧ dy / 100 ≤ 12) ∧ 1 ≤ dy % 100 ∧ dy % 100 ≤ (dm y.toNat (dy / 100).toNat : Nat) then oLoc S d ((FO y.toNat + DB y.toNat (dy / 100).toNat + dy % 100 - 1) * 86400 + s) n o else (-9, sRf S)
def zMs (S : mS) (d : Nat) : Int := (YR (sse S d / 86400) : Nat) * 12 + (MO (sse S d / 86400) : Nat) - 1
def oMv (S : mS) (d : Nat) (u b : Int) : Int × mS := if u = 0 then oMon S d (zMs S d + b * 12) else if u = 1 then oMon S d (zMs S d + b) else oLoc S d (sse S d + zSn (sna S d) u b) (zNn (sna S d) u b) (sow S d)
def oSet (S : mS) (d : Nat) (f num : Int) : Int × mS := if f ≤ 3 then oDay S d f num else oTime S d f num
set_option maxHeartbeats 4000000 in
set_option maxRecDepth 20000 in
theorem z_X2_move (ad : Nat → Nat) (cs : ClassId × ClassId × ClassId) (S : mS) (T : mT2) (rest : va_W) (hS : sWF S) (a0 : Int) (h0 : rJ a0) (a1 : Int) (h1 : rJ a1) (a2 : Int) (h2 : rJ a2) (b3 : Bool)  : mCt (mTy cs) yX2_move cX2_move 7 (some .int) ⟨7, 2, 12, 104⟩ [.ref (ad 0), .int (iZ a0), .int (iZ a1), .int (iZ a2), .int (b2i b3)] (mWd ad cs (mKof S T) rest) (fun v ws' => (((0 ≤ a0 ∧ a0 < 4)) ∧ (0 ≤ a1 ∧ a1 ≤ 2)) ∧ v = some (.int (iZ (oNum S a0.toNat (snu S a0.toNat + zSg a2 b3 * zUn a1)).1)) ∧ ws' = mWd ad cs (mKof (oNum S a0.toNat (snu S a0.toNat + zSg a2 b3 * zUn a1)).2 T) rest) (fun E ws' => ws' = mWd ad cs (mKof S T) rest ∧ ((E = xI ∧ ¬ ((0 ≤ a0 ∧ a0 < 4))) ∨ (E = xA ∧ ((0 ≤ a0 ∧ a0 < 4)) ∧ ¬ (0 ≤ a1 ∧ a1 ≤ 2)))) := by
  refine mCt.of (by decide +kernel) (Nat.le_of_ble_eq_true rfl) (fun X hX hE => ?_)
  replace hX : mOK X RX2 cX2_move 7 ⟨7, 2, 12, 104⟩ [] (mTy cs) := hX
  refine r_iload_n hX dX2_move_0 rfl rfl (r_aload_n hX dX2_move_1 rfl rfl (r_get hX kf_X2_13 0 rfl rfl dX2_move_2 (r_alen (v := iZ 4) hX 2 1 rfl rfl rfl dX2_move_5 (r_callS hX (z_X2_requireOne _ _ _ 4 (by first | with_reducible assumption | decide | omega) (by decide)) ks_X2_34 rfl rfl (Nat.le_of_ble_eq_true rfl) ⟨(Nat.le_of_ble_eq_true rfl), (Nat.le_of_ble_eq_true rfl)⟩ ⟨(Nat.le_of_ble_eq_true rfl), (Nat.le_of_ble_eq_true rfl)⟩ dX2_move_6 (fun E ws9 z => r_out hX hE (Nat.le_of_ble_eq_true rfl) (Nat.le_of_ble_eq_true rfl) ⟨z.2.1, Or.inl ⟨z.1, fun q => z.2.2 (by first | with_reducible assumption | decide | omega)⟩⟩) (fun v9 ws9 h1 => ?_)))))
  obtain ⟨hi2, rfl, hw9⟩ := h1
  subst ws9
  dsimp only [mPush]
  refine r_iload_n hX dX2_move_9 rfl rfl (r_iconstZ hX dX2_move_10 (r_iconstZ hX dX2_move_11 (r_callS hX (z_X2_requireWithin _ _ _ _ _ (by first | with_reducible assumption | decide | omega) (by first | with_reducible assumption | decide | omega) (by first | with_reducible assumption | decide | omega)) ks_X2_40 rfl rfl (Nat.le_of_ble_eq_true rfl) ⟨(Nat.le_of_ble_eq_true rfl), (Nat.le_of_ble_eq_true rfl)⟩ ⟨(Nat.le_of_ble_eq_true rfl), (Nat.le_of_ble_eq_true rfl)⟩ dX2_move_12 (fun E ws9 z => r_out hX hE (Nat.le_of_ble_eq_true rfl) (Nat.le_of_ble_eq_true rfl) ⟨z.2.1, Or.inr ⟨z.1, by omega, fun q => z.2.2 (by first | with_reducible assumption | decide | omega)⟩⟩) (fun v9 ws9 h3 => ?_))))
  obtain ⟨hi4, rfl, hw9⟩ := h3
  subst ws9
  dsimp only [mPush]
  refine r_iload_n hX dX2_move_15 rfl rfl (r_if_neZ (tgt := 25) hX dX2_move_16 (by decide) (by first | with_reducible assumption | decide | omega) (fun c5 => ?_) (fun c5 => ?_))
  · refine r_iload_n hX dX2_move_25 rfl rfl (r_iconstZ hX dX2_move_26 (r_icmp_neZ (tgt := 36) hX dX2_move_27 (by decide) (by first | with_reducible assumption | decide | omega) (by decide) (fun c6 => ?_) (fun c6 => ?_)))
    · refine r_lconstZ (v := 1) hX dX2_move_36 rfl (r_lstore hX dX2_move_37 (by decide) rfl (r_aload_n hX dX2_move_39 rfl rfl (r_iload_n hX dX2_move_40 rfl rfl (r_aload_n hX dX2_move_41 rfl rfl (r_get hX kf_X2_13 0 rfl rfl dX2_move_42 (r_iload_n hX dX2_move_45 rfl rfl ?_))))))
      have hnu := hS.2.1 a0.toNat (by omega)
      refine r_laldZ hX 2 1 rfl rfl (a0).toNat (by first | with_reducible assumption | decide | omega) (by first | with_reducible assumption | decide | omega) (by decide) dX2_move_46 (r_iload_n hX dX2_move_47 rfl rfl (r_iload hX dX2_move_48 rfl (r_callS hX (z_X2_signed _ _ _ _ (by first | with_reducible assumption | decide | omega)) ks_X2_80 rfl rfl (Nat.le_of_ble_eq_true rfl) ⟨(Nat.le_of_ble_eq_true rfl), (Nat.le_of_ble_eq_true rfl)⟩ ⟨(Nat.le_of_ble_eq_true rfl), (Nat.le_of_ble_eq_true rfl)⟩ dX2_move_50 (fun _ _ z => False.elim z) (fun v9 ws9 h7 => ?_))))
      obtain ⟨rfl, hw9⟩ := h7
      subst ws9
      dsimp only [mPush]
      have hsg7 := zSg_b (a := a2) (b := b3) (by omega)
      refine r_lload hX dX2_move_53 rfl (r_lmulZ hX dX2_move_55 (r_laddZ hX dX2_move_56 (r_callV hX (z_X2_putNumber ad cs S T rest hS _ (a0).toNat (by first | with_reducible assumption | decide | omega) (by first | with_reducible assumption | decide | omega) _ (by first | with_reducible assumption | decide | omega)) kv_X2_74 0 rfl rfl rfl rfl (Nat.le_of_ble_eq_true rfl) ⟨(Nat.le_of_ble_eq_true rfl), (Nat.le_of_ble_eq_true rfl)⟩ ⟨(Nat.le_of_ble_eq_true rfl), (Nat.le_of_ble_eq_true rfl)⟩ dX2_move_57 (fun _ _ z => False.elim z) (fun v9 ws9 h8 => ?_))))
      obtain ⟨rfl, hw9⟩ := h8
      subst ws9
      dsimp only [mPush]
      refine r_iret hX hE dX2_move_60 (Nat.le_of_ble_eq_true rfl) (Nat.le_of_ble_eq_true rfl) ⟨by omega, ?_⟩
      rw [show zUn a1 = 1 by unfold zUn; rw [if_neg (by omega), if_neg (by omega)]]
      exact ⟨rfl, rfl⟩
    · refine r_ldc2Z (z := 1000000) hX kc_X2_78 (by decide +kernel) dX2_move_30 (r_goto (tgt := 37) hX dX2_move_33 (by decide) (r_lstore hX dX2_move_37 (by decide) rfl (r_aload_n hX dX2_move_39 rfl rfl (r_iload_n hX dX2_move_40 rfl rfl (r_aload_n hX dX2_move_41 rfl rfl (r_get hX kf_X2_13 0 rfl rfl dX2_move_42 (r_iload_n hX dX2_move_45 rfl rfl ?_)))))))
      have hnu := hS.2.1 a0.toNat (by omega)
      refine r_laldZ hX 2 1 rfl rfl (a0).toNat (by first | with_reducible assumption | decide | omega) (by first | with_reducible assumption | decide | omega) (by decide) dX2_move_46 (r_iload_n hX dX2_move_47 rfl rfl (r_iload hX dX2_move_48 rfl (r_callS hX (z_X2_signed _ _ _ _ (by first | with_reducible assumption | decide | omega)) ks_X2_80 rfl rfl (Nat.le_of_ble_eq_true rfl) ⟨(Nat.le_of_ble_eq_true rfl), (Nat.le_of_ble_eq_true rfl)⟩ ⟨(Nat.le_of_ble_eq_true rfl), (Nat.le_of_ble_eq_true rfl)⟩ dX2_move_50 (fun _ _ z => False.elim z) (fun v9 ws9 h9 => ?_))))
      obtain ⟨rfl, hw9⟩ := h9
      subst ws9
      dsimp only [mPush]
      have hsg9 := zSg_b (a := a2) (b := b3) (by omega)
      refine r_lload hX dX2_move_53 rfl (r_lmulZ hX dX2_move_55 (r_laddZ hX dX2_move_56 (r_callV hX (z_X2_putNumber ad cs S T rest hS _ (a0).toNat (by first | with_reducible assumption | decide | omega) (by first | with_reducible assumption | decide | omega) _ (by first | with_reducible assumption | decide | omega)) kv_X2_74 0 rfl rfl rfl rfl (Nat.le_of_ble_eq_true rfl) ⟨(Nat.le_of_ble_eq_true rfl), (Nat.le_of_ble_eq_true rfl)⟩ ⟨(Nat.le_of_ble_eq_true rfl), (Nat.le_of_ble_eq_true rfl)⟩ dX2_move_57 (fun _ _ z => False.elim z) (fun v9 ws9 h10 => ?_))))
      obtain ⟨rfl, hw9⟩ := h10
      subst ws9
      dsimp only [mPush]
      refine r_iret hX hE dX2_move_60 (Nat.le_of_ble_eq_true rfl) (Nat.le_of_ble_eq_true rfl) ⟨by omega, ?_⟩
      rw [show zUn a1 = 1000000 by unfold zUn; rw [if_neg (by omega), if_pos (by omega)]]
      exact ⟨rfl, rfl⟩
  · refine r_ldc2Z (z := 1000000000) hX kc_X2_72 (by decide +kernel) dX2_move_19 (r_goto (tgt := 37) hX dX2_move_22 (by decide) (r_lstore hX dX2_move_37 (by decide) rfl (r_aload_n hX dX2_move_39 rfl rfl (r_iload_n hX dX2_move_40 rfl rfl (r_aload_n hX dX2_move_41 rfl rfl (r_get hX kf_X2_13 0 rfl rfl dX2_move_42 (r_iload_n hX dX2_move_45 rfl rfl ?_)))))))
    have hnu := hS.2.1 a0.toNat (by omega)
    refine r_laldZ hX 2 1 rfl rfl (a0).toNat (by first | with_reducible assumption | decide | omega) (by first | with_reducible assumption | decide | omega) (by decide) dX2_move_46 (r_iload_n hX dX2_move_47 rfl rfl (r_iload hX dX2_move_48 rfl (r_callS hX (z_X2_signed _ _ _ _ (by first | with_reducible assumption | decide | omega)) ks_X2_80 rfl rfl (Nat.le_of_ble_eq_true rfl) ⟨(Nat.le_of_ble_eq_true rfl), (Nat.le_of_ble_eq_true rfl)⟩ ⟨(Nat.le_of_ble_eq_true rfl), (Nat.le_of_ble_eq_true rfl)⟩ dX2_move_50 (fun _ _ z => False.elim z) (fun v9 ws9 h11 => ?_))))
    obtain ⟨rfl, hw9⟩ := h11
    subst ws9
    dsimp only [mPush]
    have hsg11 := zSg_b (a := a2) (b := b3) (by omega)
    refine r_lload hX dX2_move_53 rfl (r_lmulZ hX dX2_move_55 (r_laddZ hX dX2_move_56 (r_callV hX (z_X2_putNumber ad cs S T rest hS _ (a0).toNat (by first | with_reducible assumption | decide | omega) (by first | with_reducible assumption | decide | omega) _ (by first | with_reducible assumption | decide | omega)) kv_X2_74 0 rfl rfl rfl rfl (Nat.le_of_ble_eq_true rfl) ⟨(Nat.le_of_ble_eq_true rfl), (Nat.le_of_ble_eq_true rfl)⟩ ⟨(Nat.le_of_ble_eq_true rfl), (Nat.le_of_ble_eq_true rfl)⟩ dX2_move_57 (fun _ _ z => False.elim z) (fun v9 ws9 h12 => ?_))))
    obtain ⟨rfl, hw9⟩ := h12
    subst ws9
    dsimp only [mPush]
    refine r_iret hX hE dX2_move_60 (Nat.le_of_ble_eq_true rfl) (Nat.le_of_ble_eq_true rfl) ⟨by omega, ?_⟩
    rw [show zUn a1 = 1000000000 by unfold zUn; rw [if_pos (by omega)]]
    exact ⟨rfl, rfl⟩
set_option maxHeartbeats 4000000 in
set_option maxRecDepth 20000 in
theorem z_X2_momentOf (ad : Nat → Nat) (cs : ClassId × ClassId × ClassId) (S : mS) (T : mT2) (rest : va_W) (hS : sWF S) (a0 : Int) (h0 : rJ a0) (a1 : Int) (h1 : rJ a1)  : mCt (mTy cs) yX2_momentOf cX2_momentOf 3 (some .int) ⟨7, 2, 12, 103⟩ [.ref (ad 0), .int (iZ a0), .int (iZ a1)] (mWd ad cs (mKof S T) rest) (fun v ws' => (((0 ≤ a0 ∧ a0 < 4) ∧ (0 ≤ a1 ∧ a1 < 4)) ∧ (0 ≤ (0 : Int))) ∧ v = some (.int (iZ (oNum S a0.toNat ((sse S a1.toNat - sow S a1.toNat) * 1000000000 + sna S a1.toNat)).1)) ∧ ws' = mWd ad cs (mKof (oNum S a0.toNat ((sse S a1.toNat - sow S a1.toNat) * 1000000000 + sna S a1.toNat)).2 T) rest) (fun E ws' => ws' = mWd ad cs (mKof S T) rest ∧ ((E = xI ∧ ¬ ((0 ≤ a0 ∧ a0 < 4) ∧ (0 ≤ a1 ∧ a1 < 4))) ∨ (E = xA ∧ ((0 ≤ a0 ∧ a0 < 4) ∧ (0 ≤ a1 ∧ a1 < 4)) ∧ ¬ (0 ≤ (0 : Int))))) := by
  refine mCt.of (by decide +kernel) (Nat.le_of_ble_eq_true rfl) (fun X hX hE => ?_)
  replace hX : mOK X RX2 cX2_momentOf 3 ⟨7, 2, 12, 103⟩ [] (mTy cs) := hX
  refine r_iload_n hX dX2_momentOf_0 rfl rfl (r_aload_n hX dX2_momentOf_1 rfl rfl (r_get hX kf_X2_13 0 rfl rfl dX2_momentOf_2 (r_alen (v := iZ 4) hX 2 1 rfl rfl rfl dX2_momentOf_5 (r_callS hX (z_X2_requireOne _ _ _ 4 (by first | with_reducible assumption | decide | omega) (by decide)) ks_X2_34 rfl rfl (Nat.le_of_ble_eq_true rfl) ⟨(Nat.le_of_ble_eq_true rfl), (Nat.le_of_ble_eq_true rfl)⟩ ⟨(Nat.le_of_ble_eq_true rfl), (Nat.le_of_ble_eq_true rfl)⟩ dX2_momentOf_6 (fun E ws9 z => r_out hX hE (Nat.le_of_ble_eq_true rfl) (Nat.le_of_ble_eq_true rfl) ⟨z.2.1, Or.inl ⟨z.1, fun q => z.2.2 (by first | with_reducible assumption | decide | omega)⟩⟩) (fun v9 ws9 h1 => ?_)))))
  obtain ⟨hi2, rfl, hw9⟩ := h1
  subst ws9
  dsimp only [mPush]
  refine r_aload_n hX dX2_momentOf_9 rfl rfl (r_iload_n hX dX2_momentOf_10 rfl rfl (r_aload_n hX dX2_momentOf_11 rfl rfl (r_get hX kf_X2_20 0 rfl rfl dX2_momentOf_12 (r_iload_n hX dX2_momentOf_15 rfl rfl (r_callS hX (z_X2_at ad cs _ 3 _ 4 0 rfl (by decide) _ (by first | with_reducible assumption | decide | omega)) ks_X2_84 rfl rfl (Nat.le_of_ble_eq_true rfl) ⟨(Nat.le_of_ble_eq_true rfl), (Nat.le_of_ble_eq_true rfl)⟩ ⟨(Nat.le_of_ble_eq_true rfl), (Nat.le_of_ble_eq_true rfl)⟩ dX2_momentOf_16 (fun E ws9 z => r_out hX hE (Nat.le_of_ble_eq_true rfl) (Nat.le_of_ble_eq_true rfl) ⟨z.2.1, Or.inl ⟨z.1, fun q => z.2.2 (by first | with_reducible assumption | decide | omega)⟩⟩) (fun v9 ws9 h3 => ?_))))))
  obtain ⟨hi4, rfl, hw9⟩ := h3
  subst ws9
  dsimp only [mPush]
  have hr1 := zrg hS (d := a1.toNat) (by omega)
  have hse := hS.2.2.2.1 a1.toNat (by omega)
  refine r_callS hX (z_X2_numberOf _ _ (a1.toNat + 5) _ _ _ _ (zWd_loc (d := a1.toNat) (by first | with_reducible assumption | decide | omega)) (zrg hS (by first | with_reducible assumption | decide | omega))) ks_X2_88 rfl rfl (Nat.le_of_ble_eq_true rfl) ⟨(Nat.le_of_ble_eq_true rfl), (Nat.le_of_ble_eq_true rfl)⟩ ⟨(Nat.le_of_ble_eq_true rfl), (Nat.le_of_ble_eq_true rfl)⟩ dX2_momentOf_19 (fun _ _ z => False.elim z) (fun v9 ws9 h5 => ?_)
  obtain ⟨rfl, hw9⟩ := h5
  subst ws9
  dsimp only [mPush]
  refine r_callV hX (z_X2_putNumber ad cs S T rest hS _ (a0).toNat (by first | with_reducible assumption | decide | omega) (by first | with_reducible assumption | decide | omega) _ (by first | with_reducible assumption | decide | omega)) kv_X2_74 0 rfl rfl rfl rfl (Nat.le_of_ble_eq_true rfl) ⟨(Nat.le_of_ble_eq_true rfl), (Nat.le_of_ble_eq_true rfl)⟩ ⟨(Nat.le_of_ble_eq_true rfl), (Nat.le_of_ble_eq_true rfl)⟩ dX2_momentOf_22 (fun _ _ z => False.elim z) (fun v9 ws9 h6 => ?_)
  obtain ⟨rfl, hw9⟩ := h6
  subst ws9
  dsimp only [mPush]
  refine r_iret hX hE dX2_momentOf_25 (Nat.le_of_ble_eq_true rfl) (Nat.le_of_ble_eq_true rfl) ⟨by omega, ?_⟩
  exact ⟨rfl, rfl⟩
set_option maxHeartbeats 4000000 in
set_option maxRecDepth 20000 in
theorem z_X2_ofMoment (ad : Nat → Nat) (cs : ClassId × ClassId × ClassId) (S : mS) (T : mT2) (rest : va_W) (hS : sWF S) (a0 : Int) (h0 : rJ a0) (b1 : Bool)  : mCt (mTy cs) yX2_ofMoment cX2_ofMoment 3 (some .int) ⟨7, 1, 6, 103⟩ [.ref (ad 0), .int (iZ a0), .int (b2i b1)] (mWd ad cs (mKof S T) rest) (fun v ws' => (((0 ≤ a0 ∧ a0 < 4)) ∧ (0 ≤ (0 : Int))) ∧ v = some (.int (iZ (cond b1 (snu S a0.toNat % 1000000000) (snu S a0.toNat / 1000000000)))) ∧ ws' = mWd ad cs (mKof S T) rest) (fun E ws' => ws' = mWd ad cs (mKof S T) rest ∧ ((E = xI ∧ ¬ ((0 ≤ a0 ∧ a0 < 4))) ∨ (E = xA ∧ ((0 ≤ a0 ∧ a0 < 4)) ∧ ¬ (0 ≤ (0 : Int))))) := by
  refine mCt.of (by decide +kernel) (Nat.le_of_ble_eq_true rfl) (fun X hX hE => ?_)
  replace hX : mOK X RX2 cX2_ofMoment 3 ⟨7, 1, 6, 103⟩ [] (mTy cs) := hX
  refine r_iload_n hX dX2_ofMoment_0 rfl rfl (r_aload_n hX dX2_ofMoment_1 rfl rfl (r_get hX kf_X2_13 0 rfl rfl dX2_ofMoment_2 (r_alen (v := iZ 4) hX 2 1 rfl rfl rfl dX2_ofMoment_5 (r_callS hX (z_X2_requireOne _ _ _ 4 (by first | with_reducible assumption | decide | omega) (by decide)) ks_X2_34 rfl rfl (Nat.le_of_ble_eq_true rfl) ⟨(Nat.le_of_ble_eq_true rfl), (Nat.le_of_ble_eq_true rfl)⟩ ⟨(Nat.le_of_ble_eq_true rfl), (Nat.le_of_ble_eq_true rfl)⟩ dX2_ofMoment_6 (fun E ws9 z => r_out hX hE (Nat.le_of_ble_eq_true rfl) (Nat.le_of_ble_eq_true rfl) ⟨z.2.1, Or.inl ⟨z.1, fun q => z.2.2 (by first | with_reducible assumption | decide | omega)⟩⟩) (fun v9 ws9 h1 => ?_)))))
  obtain ⟨hi2, rfl, hw9⟩ := h1
  subst ws9
  dsimp only [mPush]
  refine r_iload_n hX dX2_ofMoment_9 rfl rfl (r_if_eqB (tgt := 25) hX dX2_ofMoment_10 (by decide) (fun c3 => ?_) (fun c3 => ?_))
  · have c3 := id c3
    refine r_aload_n hX dX2_ofMoment_25 rfl rfl (r_get hX kf_X2_13 0 rfl rfl dX2_ofMoment_26 (r_iload_n hX dX2_ofMoment_29 rfl rfl ?_))
    have hnu := hS.2.1 a0.toNat (by omega)
    refine r_laldZ hX 2 1 rfl rfl (a0).toNat (by first | with_reducible assumption | decide | omega) (by first | with_reducible assumption | decide | omega) (by decide) dX2_ofMoment_30 (r_callS hX (z_X2_secondOf _ _ _ (by first | with_reducible assumption | decide | omega)) ks_X2_96 rfl rfl (Nat.le_of_ble_eq_true rfl) ⟨(Nat.le_of_ble_eq_true rfl), (Nat.le_of_ble_eq_true rfl)⟩ ⟨(Nat.le_of_ble_eq_true rfl), (Nat.le_of_ble_eq_true rfl)⟩ dX2_ofMoment_31 (fun _ _ z => False.elim z) (fun v9 ws9 h4 => ?_))
    obtain ⟨rfl, hw9⟩ := h4
    subst ws9
    dsimp only [mPush]
    refine r_l2iZ hX dX2_ofMoment_34 (r_iret hX hE dX2_ofMoment_35 (Nat.le_of_ble_eq_true rfl) (Nat.le_of_ble_eq_true rfl) ⟨by omega, zi ?_, rfl⟩)
    first | (rw [show b1 = true by assumption]; rfl) | (rw [show b1 = false by assumption]; rfl)
  · have c3 := id c3
    refine r_aload_n hX dX2_ofMoment_13 rfl rfl (r_get hX kf_X2_13 0 rfl rfl dX2_ofMoment_14 (r_iload_n hX dX2_ofMoment_17 rfl rfl ?_))
    have hnu := hS.2.1 a0.toNat (by omega)
    refine r_laldZ hX 2 1 rfl rfl (a0).toNat (by first | with_reducible assumption | decide | omega) (by first | with_reducible assumption | decide | omega) (by decide) dX2_ofMoment_18 (r_callS hX (z_X2_nanoOf _ _ _ (by first | with_reducible assumption | decide | omega)) ks_X2_92 rfl rfl (Nat.le_of_ble_eq_true rfl) ⟨(Nat.le_of_ble_eq_true rfl), (Nat.le_of_ble_eq_true rfl)⟩ ⟨(Nat.le_of_ble_eq_true rfl), (Nat.le_of_ble_eq_true rfl)⟩ dX2_ofMoment_19 (fun _ _ z => False.elim z) (fun v9 ws9 h5 => ?_))
    obtain ⟨rfl, hw9⟩ := h5
    subst ws9
    dsimp only [mPush]
    refine r_goto (tgt := 35) hX dX2_ofMoment_22 (by decide) (r_iret hX hE dX2_ofMoment_35 (Nat.le_of_ble_eq_true rfl) (Nat.le_of_ble_eq_true rfl) ⟨by omega, zi ?_, rfl⟩)
    first | (rw [show b1 = true by assumption]; rfl) | (rw [show b1 = false by assumption]; rfl)
set_option maxHeartbeats 4000000 in
set_option maxRecDepth 20000 in
theorem z_X2_orderMoment (ad : Nat → Nat) (cs : ClassId × ClassId × ClassId) (S : mS) (T : mT2) (rest : va_W) (hS : sWF S) (a0 : Int) (h0 : rJ a0) (a1 : Int) (h1 : rJ a1)  : mCt (mTy cs) yX2_orderMoment cX2_orderMoment 3 (some .int) ⟨7, 2, 12, 103⟩ [.ref (ad 0), .int (iZ a0), .int (iZ a1)] (mWd ad cs (mKof S T) rest) (fun v ws' => (((0 ≤ a0 ∧ a0 < 4) ∧ (0 ≤ a1 ∧ a1 < 4)) ∧ (0 ≤ (0 : Int))) ∧ v = some (.int (iZ (cmpZ (snu S a0.toNat) (snu S a1.toNat)))) ∧ ws' = mWd ad cs (mKof S T) rest) (fun E ws' => ws' = mWd ad cs (mKof S T) rest ∧ ((E = xI ∧ ¬ ((0 ≤ a0 ∧ a0 < 4) ∧ (0 ≤ a1 ∧ a1 < 4))) ∨ (E = xA ∧ ((0 ≤ a0 ∧ a0 < 4) ∧ (0 ≤ a1 ∧ a1 < 4)) ∧ ¬ (0 ≤ (0 : Int))))) := by
  refine mCt.of (by decide +kernel) (Nat.le_of_ble_eq_true rfl) (fun X hX hE => ?_)
  replace hX : mOK X RX2 cX2_orderMoment 3 ⟨7, 2, 12, 103⟩ [] (mTy cs) := hX
  refine r_iload_n hX dX2_orderMoment_0 rfl rfl (r_aload_n hX dX2_orderMoment_1 rfl rfl (r_get hX kf_X2_13 0 rfl rfl dX2_orderMoment_2 (r_alen (v := iZ 4) hX 2 1 rfl rfl rfl dX2_orderMoment_5 (r_callS hX (z_X2_requireOne _ _ _ 4 (by first | with_reducible assumption | decide | omega) (by decide)) ks_X2_34 rfl rfl (Nat.le_of_ble_eq_true rfl) ⟨(Nat.le_of_ble_eq_true rfl), (Nat.le_of_ble_eq_true rfl)⟩ ⟨(Nat.le_of_ble_eq_true rfl), (Nat.le_of_ble_eq_true rfl)⟩ dX2_orderMoment_6 (fun E ws9 z => r_out hX hE (Nat.le_of_ble_eq_true rfl) (Nat.le_of_ble_eq_true rfl) ⟨z.2.1, Or.inl ⟨z.1, fun q => z.2.2 (by first | with_reducible assumption | decide | omega)⟩⟩) (fun v9 ws9 h1 => ?_)))))
  obtain ⟨hi2, rfl, hw9⟩ := h1
  subst ws9
  dsimp only [mPush]
  refine r_iload_n hX dX2_orderMoment_9 rfl rfl (r_aload_n hX dX2_orderMoment_10 rfl rfl (r_get hX kf_X2_13 0 rfl rfl dX2_orderMoment_11 (r_alen (v := iZ 4) hX 2 1 rfl rfl rfl dX2_orderMoment_14 (r_callS hX (z_X2_requireOne _ _ _ 4 (by first | with_reducible assumption | decide | omega) (by decide)) ks_X2_34 rfl rfl (Nat.le_of_ble_eq_true rfl) ⟨(Nat.le_of_ble_eq_true rfl), (Nat.le_of_ble_eq_true rfl)⟩ ⟨(Nat.le_of_ble_eq_true rfl), (Nat.le_of_ble_eq_true rfl)⟩ dX2_orderMoment_15 (fun E ws9 z => r_out hX hE (Nat.le_of_ble_eq_true rfl) (Nat.le_of_ble_eq_true rfl) ⟨z.2.1, Or.inl ⟨z.1, fun q => z.2.2 (by first | with_reducible assumption | decide | omega)⟩⟩) (fun v9 ws9 h3 => ?_)))))
  obtain ⟨hi4, rfl, hw9⟩ := h3
  subst ws9
  dsimp only [mPush]
  refine r_aload_n hX dX2_orderMoment_18 rfl rfl (r_get hX kf_X2_13 0 rfl rfl dX2_orderMoment_19 (r_iload_n hX dX2_orderMoment_22 rfl rfl ?_))
  have hnu := hS.2.1 a0.toNat (by omega)
  have hnu1 := hS.2.1 a1.toNat (by omega)
  refine r_laldZ hX 2 1 rfl rfl (a0).toNat (by first | with_reducible assumption | decide | omega) (by first | with_reducible assumption | decide | omega) (by decide) dX2_orderMoment_23 (r_aload_n hX dX2_orderMoment_24 rfl rfl (r_get hX kf_X2_13 0 rfl rfl dX2_orderMoment_25 (r_iload_n hX dX2_orderMoment_28 rfl rfl (r_laldZ hX 2 1 rfl rfl (a1).toNat (by first | with_reducible assumption | decide | omega) (by first | with_reducible assumption | decide | omega) (by decide) dX2_orderMoment_29 (r_callS hX (z_X2_compared _ _ _ _ (by first | with_reducible assumption | decide | omega) (by first | with_reducible assumption | decide | omega)) ks_X2_68 rfl rfl (Nat.le_of_ble_eq_true rfl) ⟨(Nat.le_of_ble_eq_true rfl), (Nat.le_of_ble_eq_true rfl)⟩ ⟨(Nat.le_of_ble_eq_true rfl), (Nat.le_of_ble_eq_true rfl)⟩ dX2_orderMoment_30 (fun _ _ z => False.elim z) (fun v9 ws9 h5 => ?_))))))
  obtain ⟨rfl, hw9⟩ := h5
  subst ws9
  dsimp only [mPush]
  have hcm5 := cmpZ_b (snu S (a0).toNat) (snu S (a1).toNat)
  refine r_iret hX hE dX2_orderMoment_33 (Nat.le_of_ble_eq_true rfl) (Nat.le_of_ble_eq_true rfl) ⟨by omega, zi ?_, rfl⟩
  rfl
set_option maxHeartbeats 4000000 in
set_option maxRecDepth 20000 in
theorem z_X2_isMoment (ad : Nat → Nat) (cs : ClassId × ClassId × ClassId) (S : mS) (T : mT2) (rest : va_W) (hS : sWF S) (a0 : Int) (h0 : rJ a0) (a1 : Int) (h1 : rJ a1) (a2 : Int) (h2 : rJ a2)  : mCt (mTy cs) yX2_isMoment cX2_isMoment 5 (some .boolean) ⟨8, 3, 18, 125⟩ [.ref (ad 0), .int (iZ a0), .int (iZ a1), .int (iZ a2)] (mWd ad cs (mKof S T) rest) (fun v ws' => (((0 ≤ a0 ∧ a0 < 4) ∧ (0 ≤ a1 ∧ a1 < 4)) ∧ (0 ≤ a2 ∧ a2 ≤ 2)) ∧ v = some (.int (b2i (zIs (cmpZ (snu S a0.toNat) (snu S a1.toNat)) a2))) ∧ ws' = mWd ad cs (mKof S T) rest) (fun E ws' => ws' = mWd ad cs (mKof S T) rest ∧ ((E = xI ∧ ¬ ((0 ≤ a0 ∧ a0 < 4) ∧ (0 ≤ a1 ∧ a1 < 4))) ∨ (E = xA ∧ ((0 ≤ a0 ∧ a0 < 4) ∧ (0 ≤ a1 ∧ a1 < 4)) ∧ ¬ (0 ≤ a2 ∧ a2 ≤ 2)))) := by
  refine mCt.of (by decide +kernel) (Nat.le_of_ble_eq_true rfl) (fun X hX hE => ?_)
  replace hX : mOK X RX2 cX2_isMoment 5 ⟨8, 3, 18, 125⟩ [] (mTy cs) := hX
  refine r_aload_n hX dX2_isMoment_0 rfl rfl (r_iload_n hX dX2_isMoment_1 rfl rfl (r_iload_n hX dX2_isMoment_2 rfl rfl (r_callV hX (z_X2_orderMoment ad cs S T rest hS _ (by first | with_reducible assumption | decide | omega) _ (by first | with_reducible assumption | decide | omega)) kv_X2_110 0 rfl rfl rfl rfl (Nat.le_of_ble_eq_true rfl) ⟨(Nat.le_of_ble_eq_true rfl), (Nat.le_of_ble_eq_true rfl)⟩ ⟨(Nat.le_of_ble_eq_true rfl), (Nat.le_of_ble_eq_true rfl)⟩ dX2_isMoment_3 (fun E ws9 z => r_out hX hE (Nat.le_of_ble_eq_true rfl) (Nat.le_of_ble_eq_true rfl) ⟨z.1, z.2.elim (fun q => Or.inl ⟨q.1, fun q2 => q.2 (by first | with_reducible assumption | decide | omega)⟩) (fun q => absurd (by decide) q.2.2)⟩) (fun v9 ws9 h1 => ?_))))
  obtain ⟨hio, rfl, hw9⟩ := h1
  subst ws9
  dsimp only [mPush]
  have hcm := cmpZ_b (snu S a0.toNat) (snu S a1.toNat)
  refine r_istore hX dX2_isMoment_6 (by decide) rfl (r_iload_n hX dX2_isMoment_8 rfl rfl (r_iconstZ hX dX2_isMoment_9 (r_iconstZ hX dX2_isMoment_10 (r_callS hX (z_X2_requireWithin _ _ _ _ _ (by first | with_reducible assumption | decide | omega) (by first | with_reducible assumption | decide | omega) (by first | with_reducible assumption | decide | omega)) ks_X2_40 rfl rfl (Nat.le_of_ble_eq_true rfl) ⟨(Nat.le_of_ble_eq_true rfl), (Nat.le_of_ble_eq_true rfl)⟩ ⟨(Nat.le_of_ble_eq_true rfl), (Nat.le_of_ble_eq_true rfl)⟩ dX2_isMoment_11 (fun E ws9 z => r_out hX hE (Nat.le_of_ble_eq_true rfl) (Nat.le_of_ble_eq_true rfl) ⟨z.2.1, Or.inr ⟨z.1, by omega, fun q => z.2.2 (by first | with_reducible assumption | decide | omega)⟩⟩) (fun v9 ws9 h2 => ?_)))))
  obtain ⟨hi3, rfl, hw9⟩ := h2
  subst ws9
  dsimp only [mPush]
  refine r_iload_n hX dX2_isMoment_14 rfl rfl (r_if_neZ (tgt := 31) hX dX2_isMoment_15 (by decide) (by first | with_reducible assumption | decide | omega) (fun c4 => ?_) (fun c4 => ?_))
  · refine r_iload_n hX dX2_isMoment_31 rfl rfl (r_iconstZ hX dX2_isMoment_32 (r_icmp_neZ (tgt := 49) hX dX2_isMoment_33 (by decide) (by first | with_reducible assumption | decide | omega) (by decide) (fun c5 => ?_) (fun c5 => ?_)))
    · refine r_iload hX dX2_isMoment_49 rfl (r_if_neZ (tgt := 58) hX dX2_isMoment_51 (by decide) (by first | with_reducible assumption | decide | omega) (fun c6 => ?_) (fun c6 => ?_))
      · refine r_iconstZ hX dX2_isMoment_58 (r_zret hX hE dX2_isMoment_59 (by decide) (Nat.le_of_ble_eq_true rfl) (Nat.le_of_ble_eq_true rfl) ⟨by omega, zb0 ?_, rfl⟩)
        unfold zIs
        first | rw [if_pos (by omega)] | rw [if_neg (by omega), if_pos (by omega)] | rw [if_neg (by omega), if_neg (by omega)]
        exact decide_eq_false (by omega)
      · refine r_iconstZ hX dX2_isMoment_54 (r_goto (tgt := 59) hX dX2_isMoment_55 (by decide) (r_zret hX hE dX2_isMoment_59 (by decide) (Nat.le_of_ble_eq_true rfl) (Nat.le_of_ble_eq_true rfl) ⟨by omega, zb1 ?_, rfl⟩))
        unfold zIs
        first | rw [if_pos (by omega)] | rw [if_neg (by omega), if_pos (by omega)] | rw [if_neg (by omega), if_neg (by omega)]
        exact decide_eq_true (by omega)
    · refine r_iload hX dX2_isMoment_36 rfl (r_if_leZ (tgt := 45) hX dX2_isMoment_38 (by decide) (by first | with_reducible assumption | decide | omega) (fun c7 => ?_) (fun c7 => ?_))
      · refine r_iconstZ hX dX2_isMoment_45 (r_goto (tgt := 59) hX dX2_isMoment_46 (by decide) (r_zret hX hE dX2_isMoment_59 (by decide) (Nat.le_of_ble_eq_true rfl) (Nat.le_of_ble_eq_true rfl) ⟨by omega, zb0 ?_, rfl⟩))
        unfold zIs
        first | rw [if_pos (by omega)] | rw [if_neg (by omega), if_pos (by omega)] | rw [if_neg (by omega), if_neg (by omega)]
        exact decide_eq_false (by omega)
      · refine r_iconstZ hX dX2_isMoment_41 (r_goto (tgt := 59) hX dX2_isMoment_42 (by decide) (r_zret hX hE dX2_isMoment_59 (by decide) (Nat.le_of_ble_eq_true rfl) (Nat.le_of_ble_eq_true rfl) ⟨by omega, zb1 ?_, rfl⟩))
        unfold zIs
        first | rw [if_pos (by omega)] | rw [if_neg (by omega), if_pos (by omega)] | rw [if_neg (by omega), if_neg (by omega)]
        exact decide_eq_true (by omega)
  · refine r_iload hX dX2_isMoment_18 rfl (r_if_geZ (tgt := 27) hX dX2_isMoment_20 (by decide) (by first | with_reducible assumption | decide | omega) (fun c8 => ?_) (fun c8 => ?_))
    · refine r_iconstZ hX dX2_isMoment_27 (r_goto (tgt := 59) hX dX2_isMoment_28 (by decide) (r_zret hX hE dX2_isMoment_59 (by decide) (Nat.le_of_ble_eq_true rfl) (Nat.le_of_ble_eq_true rfl) ⟨by omega, zb0 ?_, rfl⟩))
      unfold zIs
      first | rw [if_pos (by omega)] | rw [if_neg (by omega), if_pos (by omega)] | rw [if_neg (by omega), if_neg (by omega)]
      exact decide_eq_false (by omega)
    · refine r_iconstZ hX dX2_isMoment_23 (r_goto (tgt := 59) hX dX2_isMoment_24 (by decide) (r_zret hX hE dX2_isMoment_59 (by decide) (Nat.le_of_ble_eq_true rfl) (Nat.le_of_ble_eq_true rfl) ⟨by omega, zb1 ?_, rfl⟩))
      unfold zIs
      first | rw [if_pos (by omega)] | rw [if_neg (by omega), if_pos (by omega)] | rw [if_neg (by omega), if_neg (by omega)]
      exact decide_eq_true (by omega)
set_option maxHeartbeats 4000000 in
set_option maxRecDepth 20000 in
theorem z_X2_copyMoment (ad : Nat → Nat) (cs : ClassId × ClassId × ClassId) (S : mS) (T : mT2) (rest : va_W) (hS : sWF S) (a0 : Int) (h0 : rJ a0) (a1 : Int) (h1 : rJ a1)  : mCt (mTy cs) yX2_copyMoment cX2_copyMoment 3 (some .int) ⟨7, 2, 12, 103⟩ [.ref (ad 0), .int (iZ a0), .int (iZ a1)] (mWd ad cs (mKof S T) rest) (fun v ws' => (((0 ≤ a0 ∧ a0 < 4) ∧ (0 ≤ a1 ∧ a1 < 4)) ∧ (0 ≤ (0 : Int))) ∧ v = some (.int (iZ (oNum S a0.toNat (snu S a1.toNat)).1)) ∧ ws' = mWd ad cs (mKof (oNum S a0.toNat (snu S a1.toNat)).2 T) rest) (fun E ws' => ws' = mWd ad cs (mKof S T) rest ∧ ((E = xI ∧ ¬ ((0 ≤ a0 ∧ a0 < 4) ∧ (0 ≤ a1 ∧ a1 < 4))) ∨ (E = xA ∧ ((0 ≤ a0 ∧ a0 < 4) ∧ (0 ≤ a1 ∧ a1 < 4)) ∧ ¬ (0 ≤ (0 : Int))))) := by
  refine mCt.of (by decide +kernel) (Nat.le_of_ble_eq_true rfl) (fun X hX hE => ?_)
  replace hX : mOK X RX2 cX2_copyMoment 3 ⟨7, 2, 12, 103⟩ [] (mTy cs) := hX
  refine r_iload_n hX dX2_copyMoment_0 rfl rfl (r_aload_n hX dX2_copyMoment_1 rfl rfl (r_get hX kf_X2_13 0 rfl rfl dX2_copyMoment_2 (r_alen (v := iZ 4) hX 2 1 rfl rfl rfl dX2_copyMoment_5 (r_callS hX (z_X2_requireOne _ _ _ 4 (by first | with_reducible assumption | decide | omega) (by decide)) ks_X2_34 rfl rfl (Nat.le_of_ble_eq_true rfl) ⟨(Nat.le_of_ble_eq_true rfl), (Nat.le_of_ble_eq_true rfl)⟩ ⟨(Nat.le_of_ble_eq_true rfl), (Nat.le_of_ble_eq_true rfl)⟩ dX2_copyMoment_6 (fun E ws9 z => r_out hX hE (Nat.le_of_ble_eq_true rfl) (Nat.le_of_ble_eq_true rfl) ⟨z.2.1, Or.inl ⟨z.1, fun q => z.2.2 (by first | with_reducible assumption | decide | omega)⟩⟩) (fun v9 ws9 h1 => ?_)))))
  obtain ⟨hi2, rfl, hw9⟩ := h1
  subst ws9
  dsimp only [mPush]
  refine r_iload_n hX dX2_copyMoment_9 rfl rfl (r_aload_n hX dX2_copyMoment_10 rfl rfl (r_get hX kf_X2_13 0 rfl rfl dX2_copyMoment_11 (r_alen (v := iZ 4) hX 2 1 rfl rfl rfl dX2_copyMoment_14 (r_callS hX (z_X2_requireOne _ _ _ 4 (by first | with_reducible assumption | decide | omega) (by decide)) ks_X2_34 rfl rfl (Nat.le_of_ble_eq_true rfl) ⟨(Nat.le_of_ble_eq_true rfl), (Nat.le_of_ble_eq_true rfl)⟩ ⟨(Nat.le_of_ble_eq_true rfl), (Nat.le_of_ble_eq_true rfl)⟩ dX2_copyMoment_15 (fun E ws9 z => r_out hX hE (Nat.le_of_ble_eq_true rfl) (Nat.le_of_ble_eq_true rfl) ⟨z.2.1, Or.inl ⟨z.1, fun q => z.2.2 (by first | with_reducible assumption | decide | omega)⟩⟩) (fun v9 ws9 h3 => ?_)))))
  obtain ⟨hi4, rfl, hw9⟩ := h3
  subst ws9
  dsimp only [mPush]
  refine r_aload_n hX dX2_copyMoment_18 rfl rfl (r_iload_n hX dX2_copyMoment_19 rfl rfl (r_aload_n hX dX2_copyMoment_20 rfl rfl (r_get hX kf_X2_13 0 rfl rfl dX2_copyMoment_21 (r_iload_n hX dX2_copyMoment_24 rfl rfl ?_))))
  have hnu := hS.2.1 a1.toNat (by omega)
  refine r_laldZ hX 2 1 rfl rfl (a1).toNat (by first | with_reducible assumption | decide | omega) (by first | with_reducible assumption | decide | omega) (by decide) dX2_copyMoment_25 (r_callV hX (z_X2_putNumber ad cs S T rest hS _ (a0).toNat (by first | with_reducible assumption | decide | omega) (by first | with_reducible assumption | decide | omega) _ (by first | with_reducible assumption | decide | omega)) kv_X2_74 0 rfl rfl rfl rfl (Nat.le_of_ble_eq_true rfl) ⟨(Nat.le_of_ble_eq_true rfl), (Nat.le_of_ble_eq_true rfl)⟩ ⟨(Nat.le_of_ble_eq_true rfl), (Nat.le_of_ble_eq_true rfl)⟩ dX2_copyMoment_26 (fun _ _ z => False.elim z) (fun v9 ws9 h5 => ?_))
  obtain ⟨rfl, hw9⟩ := h5
  subst ws9
  dsimp only [mPush]
  refine r_iret hX hE dX2_copyMoment_29 (Nat.le_of_ble_eq_true rfl) (Nat.le_of_ble_eq_true rfl) ⟨by omega, ?_⟩
  exact ⟨rfl, rfl⟩
end
-- 69 zdate
section
/-! The class, exact (rows by a program of this repository). -/
set_option maxHeartbeats 4000000 in
set_option maxRecDepth 20000 in
theorem z_X2_date (ad : Nat → Nat) (cs : ClassId × ClassId × ClassId) (S : mS) (T : mT2) (rest : va_W) (hS : sWF S) (a0 : Int) (h0 : rJ a0) (a1 : Int) (h1 : rJ a1) (a2 : Int) (h2 : rJ a2) (a3 : Int) (h3 : rJ a3) (a4 : Int) (h4 : rJ a4) (a5 : Int) (h5 : rJ a5)  : mCt (mTy cs) yX2_date cX2_date 11 (some .int) ⟨8, 5, 30, 124⟩ [.ref (ad 0), .int (iZ a0), .int (iZ a1), .int (iZ a2), .int (iZ a3), .int (iZ a4), .int (iZ a5)] (mWd ad cs (mKof S T) rest) (fun v ws' => (((0 ≤ a0 ∧ a0 < 4) ∧ (0 ≤ a5 ∧ a5 < 4)) ∧ ((0 ≤ a2 ∧ a2 ≤ 9999) ∧ (0 ≤ a3 ∧ a3 ≤ 86399) ∧ (0 ≤ a4 ∧ a4 ≤ 999999999))) ∧ v = some (.int (iZ (oDate S a0.toNat a1 a2 a3 a4 (sof S a5.toNat)).1)) ∧ ws' = mWd ad cs (mKof (oDate S a0.toNat a1 a2 a3 a4 (sof S a5.toNat)).2 T) rest) (fun E ws' => ws' = mWd ad cs (mKof S T) rest ∧ ((E = xI ∧ ¬ ((0 ≤ a0 ∧ a0 < 4) ∧ (0 ≤ a5 ∧ a5 < 4))) ∨ (E = xA ∧ ((0 ≤ a0 ∧ a0 < 4) ∧ (0 ≤ a5 ∧ a5 < 4)) ∧ ¬ ((0 ≤ a2 ∧ a2 ≤ 9999) ∧ (0 ≤ a3 ∧ a3 ≤ 86399) ∧ (0 ≤ a4 ∧ a4 ≤ 999999999))))) := by
  refine mCt.of (by decide +kernel) (Nat.le_of_ble_eq_true rfl) (fun X hX hE => ?_)
  replace hX : mOK X RX2 cX2_date 11 ⟨8, 5, 30, 124⟩ [] (mTy cs) := hX
  refine r_aload_n hX dX2_date_0 rfl rfl (r_get hX kf_X2_20 0 rfl rfl dX2_date_1 (r_iload_n hX dX2_date_4 rfl rfl (r_callS hX (z_X2_at ad cs _ 3 _ 4 0 rfl (by decide) _ (by first | with_reducible assumption | decide | omega)) ks_X2_84 rfl rfl (Nat.le_of_ble_eq_true rfl) ⟨(Nat.le_of_ble_eq_true rfl), (Nat.le_of_ble_eq_true rfl)⟩ ⟨(Nat.le_of_ble_eq_true rfl), (Nat.le_of_ble_eq_true rfl)⟩ dX2_date_5 (fun E ws9 z => r_out hX hE (Nat.le_of_ble_eq_true rfl) (Nat.le_of_ble_eq_true rfl) ⟨z.2.1, Or.inl ⟨z.1, fun q => z.2.2 (by first | with_reducible assumption | decide | omega)⟩⟩) (fun v9 ws9 h1 => ?_))))
  obtain ⟨hi2, rfl, hw9⟩ := h1
  subst ws9
  dsimp only [mPush]
  refine r_astore hX dX2_date_8 (by decide) rfl (r_aload_n hX dX2_date_10 rfl rfl (r_iload hX dX2_date_11 rfl (r_callV hX (z_X2_seconds ad cs S T rest hS _ (by first | with_reducible assumption | decide | omega)) kv_X2_64 0 rfl rfl rfl rfl (Nat.le_of_ble_eq_true rfl) ⟨(Nat.le_of_ble_eq_true rfl), (Nat.le_of_ble_eq_true rfl)⟩ ⟨(Nat.le_of_ble_eq_true rfl), (Nat.le_of_ble_eq_true rfl)⟩ dX2_date_13 (fun E ws9 z => r_out hX hE (Nat.le_of_ble_eq_true rfl) (Nat.le_of_ble_eq_true rfl) ⟨z.2.1, Or.inl ⟨z.1, fun q => z.2.2 (by first | with_reducible assumption | decide | omega)⟩⟩) (fun v9 ws9 h3 => ?_))))
  obtain ⟨hi4, rfl, hw9⟩ := h3
  subst ws9
  dsimp only [mPush]
  have hof4 := hS.1 a5.toNat (by omega)
  refine r_istore hX dX2_date_16 (by decide) rfl (r_iload_n hX dX2_date_18 rfl rfl (r_iconstZ hX dX2_date_19 (r_sipushZ hX dX2_date_20 (by decide +kernel) (r_callS hX (z_X2_requireWithin _ _ _ _ _ (by first | with_reducible assumption | decide | omega) (by first | with_reducible assumption | decide | omega) (by first | with_reducible assumption | decide | omega)) ks_X2_40 rfl rfl (Nat.le_of_ble_eq_true rfl) ⟨(Nat.le_of_ble_eq_true rfl), (Nat.le_of_ble_eq_true rfl)⟩ ⟨(Nat.le_of_ble_eq_true rfl), (Nat.le_of_ble_eq_true rfl)⟩ dX2_date_23 (fun E ws9 z => r_out hX hE (Nat.le_of_ble_eq_true rfl) (Nat.le_of_ble_eq_true rfl) ⟨z.2.1, Or.inr ⟨z.1, by omega, fun q => z.2.2 (by first | with_reducible assumption | decide | omega)⟩⟩) (fun v9 ws9 h5 => ?_)))))
  obtain ⟨hi6, rfl, hw9⟩ := h5
  subst ws9
  dsimp only [mPush]
  refine r_iload hX dX2_date_26 rfl (r_iconstZ hX dX2_date_28 (r_ldcZ (z := 86399) hX kc_X2_114 (by decide +kernel) dX2_date_29 (r_callS hX (z_X2_requireWithin _ _ _ _ _ (by first | with_reducible assumption | decide | omega) (by first | with_reducible assumption | decide | omega) (by first | with_reducible assumption | decide | omega)) ks_X2_40 rfl rfl (Nat.le_of_ble_eq_true rfl) ⟨(Nat.le_of_ble_eq_true rfl), (Nat.le_of_ble_eq_true rfl)⟩ ⟨(Nat.le_of_ble_eq_true rfl), (Nat.le_of_ble_eq_true rfl)⟩ dX2_date_31 (fun E ws9 z => r_out hX hE (Nat.le_of_ble_eq_true rfl) (Nat.le_of_ble_eq_true rfl) ⟨z.2.1, Or.inr ⟨z.1, by omega, fun q => z.2.2 (by first | with_reducible assumption | decide | omega)⟩⟩) (fun v9 ws9 h7 => ?_))))
  obtain ⟨hi8, rfl, hw9⟩ := h7
  subst ws9
  dsimp only [mPush]
  refine r_iload hX dX2_date_34 rfl (r_iconstZ hX dX2_date_36 (r_ldcZ (z := 999999999) hX kc_X2_115 (by decide +kernel) dX2_date_37 (r_callS hX (z_X2_requireWithin _ _ _ _ _ (by first | with_reducible assumption | decide | omega) (by first | with_reducible assumption | decide | omega) (by first | with_reducible assumption | decide | omega)) ks_X2_40 rfl rfl (Nat.le_of_ble_eq_true rfl) ⟨(Nat.le_of_ble_eq_true rfl), (Nat.le_of_ble_eq_true rfl)⟩ ⟨(Nat.le_of_ble_eq_true rfl), (Nat.le_of_ble_eq_true rfl)⟩ dX2_date_39 (fun E ws9 z => r_out hX hE (Nat.le_of_ble_eq_true rfl) (Nat.le_of_ble_eq_true rfl) ⟨z.2.1, Or.inr ⟨z.1, by omega, fun q => z.2.2 (by first | with_reducible assumption | decide | omega)⟩⟩) (fun v9 ws9 h9 => ?_))))
  obtain ⟨hi10, rfl, hw9⟩ := h9
  subst ws9
  dsimp only [mPush]
  refine r_iload_n hX dX2_date_42 rfl rfl (r_bipushZ hX dX2_date_43 (by decide +kernel) (r_idivZ hX dX2_date_45 (by first | with_reducible assumption | decide | omega) (by decide) (r_istore hX dX2_date_46 (by decide) rfl (r_iload_n hX dX2_date_48 rfl rfl (r_bipushZ hX dX2_date_49 (by decide +kernel) (r_iremZ hX dX2_date_51 (by first | with_reducible assumption | decide | omega) (by decide) (r_istore hX dX2_date_52 (by decide) rfl ?_)))))))
  refine r_iload_n hX dX2_date_54 rfl rfl (r_i2lZ hX dX2_date_55 (by first | with_reducible assumption | decide | omega) (r_ldc2Z (z := 1910) hX kc_X2_116 (by decide +kernel) dX2_date_56 (r_ldc2Z (z := 2030) hX kc_X2_118 (by decide +kernel) dX2_date_59 (r_callS hX (z_X2_isWithin _ _ _ _ _ (by first | with_reducible assumption | decide | omega) (by first | with_reducible assumption | decide | omega) (by first | with_reducible assumption | decide | omega)) ks_X2_48 rfl rfl (Nat.le_of_ble_eq_true rfl) ⟨(Nat.le_of_ble_eq_true rfl), (Nat.le_of_ble_eq_true rfl)⟩ ⟨(Nat.le_of_ble_eq_true rfl), (Nat.le_of_ble_eq_true rfl)⟩ dX2_date_62 (fun _ _ z => False.elim z) (fun v9 ws9 h11 => ?_)))))
  obtain ⟨rfl, hw9⟩ := h11
  subst ws9
  dsimp only [mPush]
  refine r_if_eqB (tgt := 79) hX dX2_date_65 (by decide) (fun c12 => ?_) (fun c12 => ?_)
  · have c12 := of_decide_eq_false c12
    refine r_aload_n hX dX2_date_79 rfl rfl (r_callV hX (z_X2_refused ad cs S T rest) kv_X2_56 0 rfl rfl rfl rfl (Nat.le_of_ble_eq_true rfl) ⟨(Nat.le_of_ble_eq_true rfl), (Nat.le_of_ble_eq_true rfl)⟩ ⟨(Nat.le_of_ble_eq_true rfl), (Nat.le_of_ble_eq_true rfl)⟩ dX2_date_80 (fun _ _ z => False.elim z) (fun v9 ws9 h13 => ?_))
    obtain ⟨rfl, hw9⟩ := h13
    subst ws9
    dsimp only [mPush]
    refine r_iret hX hE dX2_date_83 (Nat.le_of_ble_eq_true rfl) (Nat.le_of_ble_eq_true rfl) ⟨by omega, ?_⟩
    unfold oDate
    rw [if_neg (by omega)]
    exact ⟨rfl, rfl⟩
  · have c12 := of_decide_eq_true c12
    refine r_iload_n hX dX2_date_68 rfl rfl (r_iload hX dX2_date_69 rfl (r_iload hX dX2_date_71 rfl (r_callS hX (z_X0_isDay _ _ _ (a1).toNat (by first | with_reducible assumption | decide | omega) (by first | with_reducible assumption | decide | omega) _ (by first | with_reducible assumption | decide | omega) _ (by first | with_reducible assumption | decide | omega)) ks_X2_120 rfl rfl (Nat.le_of_ble_eq_true rfl) ⟨(Nat.le_of_ble_eq_true rfl), (Nat.le_of_ble_eq_true rfl)⟩ ⟨(Nat.le_of_ble_eq_true rfl), (Nat.le_of_ble_eq_true rfl)⟩ dX2_date_73 (fun _ _ z => False.elim z) (fun v9 ws9 h14 => ?_))))
    obtain ⟨rfl, hw9⟩ := h14
    subst ws9
    dsimp only [mPush]
    refine r_if_neB (tgt := 84) hX dX2_date_76 (by decide) (fun c15 => ?_) (fun c15 => ?_)
    · have c15 := of_decide_eq_true c15
      refine r_aload_n hX dX2_date_84 rfl rfl (r_aload hX dX2_date_85 rfl (r_iload_n hX dX2_date_87 rfl rfl (r_iload hX dX2_date_88 rfl (r_iload hX dX2_date_90 rfl ?_))))
      have hfo := FO_b (y := a1.toNat) (by omega)
      have hdb := DB_b (y := a1.toNat) (m := (a2 / 100).toNat) (by omega)
      have hdm := dm_b a1.toNat (a2 / 100).toNat
      refine r_callS hX (z_X0_dayOf _ _ _ (a1).toNat (by first | with_reducible assumption | decide | omega) (by first | with_reducible assumption | decide | omega) _ (a2 / 100).toNat (by first | with_reducible assumption | decide | omega) (by first | with_reducible assumption | decide | omega) _) ks_X2_126 rfl rfl (Nat.le_of_ble_eq_true rfl) ⟨(Nat.le_of_ble_eq_true rfl), (Nat.le_of_ble_eq_true rfl)⟩ ⟨(Nat.le_of_ble_eq_true rfl), (Nat.le_of_ble_eq_true rfl)⟩ dX2_date_92 (fun _ _ z => False.elim z) (fun v9 ws9 h16 => ?_)
      obtain ⟨rfl, hw9⟩ := h16
      subst ws9
      dsimp only [mPush]
      refine r_i2lZ hX dX2_date_95 (by first | with_reducible assumption | decide | omega) (r_ldc2Z (z := 86400) hX kc_X2_130 (by decide +kernel) dX2_date_96 (r_lmulZ hX dX2_date_99 (r_iload hX dX2_date_100 rfl (r_i2lZ hX dX2_date_102 (by first | with_reducible assumption | decide | omega) (r_laddZ hX dX2_date_103 (r_iload hX dX2_date_104 rfl (r_iload hX dX2_date_106 rfl ?_)))))))
      refine r_callV hX (z_X2_putLocal ad cs S T rest hS a0.toNat (by first | with_reducible assumption | decide | omega) _ _ _ (by first | with_reducible assumption | decide | omega) (by first | with_reducible assumption | decide | omega) (by first | with_reducible assumption | decide | omega)) kv_X2_132 0 rfl rfl rfl rfl (Nat.le_of_ble_eq_true rfl) ⟨(Nat.le_of_ble_eq_true rfl), (Nat.le_of_ble_eq_true rfl)⟩ ⟨(Nat.le_of_ble_eq_true rfl), (Nat.le_of_ble_eq_true rfl)⟩ dX2_date_108 (fun _ _ z => False.elim z) (fun v9 ws9 h17 => ?_)
      obtain ⟨rfl, hw9⟩ := h17
      subst ws9
      dsimp only [mPush]
      refine r_iret hX hE dX2_date_111 (Nat.le_of_ble_eq_true rfl) (Nat.le_of_ble_eq_true rfl) ⟨by omega, ?_⟩
      unfold oDate
      rw [if_pos (by omega)]
      exact ⟨rfl, rfl⟩
    · have c15 := of_decide_eq_false c15
      refine r_aload_n hX dX2_date_79 rfl rfl (r_callV hX (z_X2_refused ad cs S T rest) kv_X2_56 0 rfl rfl rfl rfl (Nat.le_of_ble_eq_true rfl) ⟨(Nat.le_of_ble_eq_true rfl), (Nat.le_of_ble_eq_true rfl)⟩ ⟨(Nat.le_of_ble_eq_true rfl), (Nat.le_of_ble_eq_true rfl)⟩ dX2_date_80 (fun _ _ z => False.elim z) (fun v9 ws9 h18 => ?_))
      obtain ⟨rfl, hw9⟩ := h18
      subst ws9
      dsimp only [mPush]
      refine r_iret hX hE dX2_date_83 (Nat.le_of_ble_eq_true rfl) (Nat.le_of_ble_eq_true rfl) ⟨by omega, ?_⟩
      unfold oDate
      rw [if_neg (by omega)]
      exact ⟨rfl, rfl⟩
set_option maxHeartbeats 4000000 in
set_option maxRecDepth 20000 in
theorem z_X2_dateOf (ad : Nat → Nat) (cs : ClassId × ClassId × ClassId) (S : mS) (T : mT2) (rest : va_W) (hS : sWF S) (a0 : Int) (h0 : rJ a0) (a1 : Int) (h1 : rJ a1) (a2 : Int) (h2 : rJ a2)  : mCt (mTy cs) yX2_dateOf cX2_dateOf 8 (some .int) ⟨8, 3, 18, 124⟩ [.ref (ad 0), .int (iZ a0), .int (iZ a1), .int (iZ a2)] (mWd ad cs (mKof S T) rest) (fun v ws' => (((0 ≤ a0 ∧ a0 < 4) ∧ (0 ≤ a1 ∧ a1 < 4) ∧ (0 ≤ a2 ∧ a2 < 4)) ∧ (0 ≤ (0 : Int))) ∧ v = some (.int (iZ (oLoc S a0.toNat (snu S a1.toNat / 1000000000 + sof S a2.toNat) (snu S a1.toNat % 1000000000) (sof S a2.toNat)).1)) ∧ ws' = mWd ad cs (mKof (oLoc S a0.toNat (snu S a1.toNat / 1000000000 + sof S a2.toNat) (snu S a1.toNat % 1000000000) (sof S a2.toNat)).2 T) rest) (fun E ws' => ws' = mWd ad cs (mKof S T) rest ∧ ((E = xI ∧ ¬ ((0 ≤ a0 ∧ a0 < 4) ∧ (0 ≤ a1 ∧ a1 < 4) ∧ (0 ≤ a2 ∧ a2 < 4))) ∨ (E = xA ∧ ((0 ≤ a0 ∧ a0 < 4) ∧ (0 ≤ a1 ∧ a1 < 4) ∧ (0 ≤ a2 ∧ a2 < 4)) ∧ ¬ (0 ≤ (0 : Int))))) := by
  refine mCt.of (by decide +kernel) (Nat.le_of_ble_eq_true rfl) (fun X hX hE => ?_)
  replace hX : mOK X RX2 cX2_dateOf 8 ⟨8, 3, 18, 124⟩ [] (mTy cs) := hX
  refine r_aload_n hX dX2_dateOf_0 rfl rfl (r_get hX kf_X2_20 0 rfl rfl dX2_dateOf_1 (r_iload_n hX dX2_dateOf_4 rfl rfl (r_callS hX (z_X2_at ad cs _ 3 _ 4 0 rfl (by decide) _ (by first | with_reducible assumption | decide | omega)) ks_X2_84 rfl rfl (Nat.le_of_ble_eq_true rfl) ⟨(Nat.le_of_ble_eq_true rfl), (Nat.le_of_ble_eq_true rfl)⟩ ⟨(Nat.le_of_ble_eq_true rfl), (Nat.le_of_ble_eq_true rfl)⟩ dX2_dateOf_5 (fun E ws9 z => r_out hX hE (Nat.le_of_ble_eq_true rfl) (Nat.le_of_ble_eq_true rfl) ⟨z.2.1, Or.inl ⟨z.1, fun q => z.2.2 (by first | with_reducible assumption | decide | omega)⟩⟩) (fun v9 ws9 h1 => ?_))))
  obtain ⟨hi2, rfl, hw9⟩ := h1
  subst ws9
  dsimp only [mPush]
  refine r_astore hX dX2_dateOf_8 (by decide) rfl (r_iload_n hX dX2_dateOf_10 rfl rfl (r_aload_n hX dX2_dateOf_11 rfl rfl (r_get hX kf_X2_13 0 rfl rfl dX2_dateOf_12 (r_alen (v := iZ 4) hX 2 1 rfl rfl rfl dX2_dateOf_15 (r_callS hX (z_X2_requireOne _ _ _ 4 (by first | with_reducible assumption | decide | omega) (by decide)) ks_X2_34 rfl rfl (Nat.le_of_ble_eq_true rfl) ⟨(Nat.le_of_ble_eq_true rfl), (Nat.le_of_ble_eq_true rfl)⟩ ⟨(Nat.le_of_ble_eq_true rfl), (Nat.le_of_ble_eq_true rfl)⟩ dX2_dateOf_16 (fun E ws9 z => r_out hX hE (Nat.le_of_ble_eq_true rfl) (Nat.le_of_ble_eq_true rfl) ⟨z.2.1, Or.inl ⟨z.1, fun q => z.2.2 (by first | with_reducible assumption | decide | omega)⟩⟩) (fun v9 ws9 h3 => ?_))))))
  obtain ⟨hi4, rfl, hw9⟩ := h3
  subst ws9
  dsimp only [mPush]
  refine r_aload_n hX dX2_dateOf_19 rfl rfl (r_iload_n hX dX2_dateOf_20 rfl rfl (r_callV hX (z_X2_seconds ad cs S T rest hS _ (by first | with_reducible assumption | decide | omega)) kv_X2_64 0 rfl rfl rfl rfl (Nat.le_of_ble_eq_true rfl) ⟨(Nat.le_of_ble_eq_true rfl), (Nat.le_of_ble_eq_true rfl)⟩ ⟨(Nat.le_of_ble_eq_true rfl), (Nat.le_of_ble_eq_true rfl)⟩ dX2_dateOf_21 (fun E ws9 z => r_out hX hE (Nat.le_of_ble_eq_true rfl) (Nat.le_of_ble_eq_true rfl) ⟨z.2.1, Or.inl ⟨z.1, fun q => z.2.2 (by first | with_reducible assumption | decide | omega)⟩⟩) (fun v9 ws9 h5 => ?_)))
  obtain ⟨hi6, rfl, hw9⟩ := h5
  subst ws9
  dsimp only [mPush]
  have hof6 := hS.1 a2.toNat (by omega)
  refine r_istore hX dX2_dateOf_24 (by decide) rfl (r_aload_n hX dX2_dateOf_26 rfl rfl (r_get hX kf_X2_13 0 rfl rfl dX2_dateOf_27 (r_iload_n hX dX2_dateOf_30 rfl rfl ?_)))
  have hnu := hS.2.1 a1.toNat (by omega)
  refine r_laldZ hX 2 1 rfl rfl (a1).toNat (by first | with_reducible assumption | decide | omega) (by first | with_reducible assumption | decide | omega) (by decide) dX2_dateOf_31 (r_lstore hX dX2_dateOf_32 (by decide) rfl (r_aload_n hX dX2_dateOf_34 rfl rfl (r_aload hX dX2_dateOf_35 rfl (r_lload hX dX2_dateOf_37 rfl (r_callS hX (z_X2_secondOf _ _ _ (by first | with_reducible assumption | decide | omega)) ks_X2_96 rfl rfl (Nat.le_of_ble_eq_true rfl) ⟨(Nat.le_of_ble_eq_true rfl), (Nat.le_of_ble_eq_true rfl)⟩ ⟨(Nat.le_of_ble_eq_true rfl), (Nat.le_of_ble_eq_true rfl)⟩ dX2_dateOf_39 (fun _ _ z => False.elim z) (fun v9 ws9 h7 => ?_))))))
  obtain ⟨rfl, hw9⟩ := h7
  subst ws9
  dsimp only [mPush]
  refine r_iload hX dX2_dateOf_42 rfl (r_i2lZ hX dX2_dateOf_44 (by first | with_reducible assumption | decide | omega) (r_laddZ hX dX2_dateOf_45 (r_lload hX dX2_dateOf_46 rfl (r_callS hX (z_X2_nanoOf _ _ _ (by first | with_reducible assumption | decide | omega)) ks_X2_92 rfl rfl (Nat.le_of_ble_eq_true rfl) ⟨(Nat.le_of_ble_eq_true rfl), (Nat.le_of_ble_eq_true rfl)⟩ ⟨(Nat.le_of_ble_eq_true rfl), (Nat.le_of_ble_eq_true rfl)⟩ dX2_dateOf_48 (fun _ _ z => False.elim z) (fun v9 ws9 h8 => ?_)))))
  obtain ⟨rfl, hw9⟩ := h8
  subst ws9
  dsimp only [mPush]
  refine r_iload hX dX2_dateOf_51 rfl (r_callV hX (z_X2_putLocal ad cs S T rest hS a0.toNat (by first | with_reducible assumption | decide | omega) _ _ _ (by first | with_reducible assumption | decide | omega) (by first | with_reducible assumption | decide | omega) (by first | with_reducible assumption | decide | omega)) kv_X2_132 0 rfl rfl rfl rfl (Nat.le_of_ble_eq_true rfl) ⟨(Nat.le_of_ble_eq_true rfl), (Nat.le_of_ble_eq_true rfl)⟩ ⟨(Nat.le_of_ble_eq_true rfl), (Nat.le_of_ble_eq_true rfl)⟩ dX2_dateOf_53 (fun _ _ z => False.elim z) (fun v9 ws9 h9 => ?_))
  obtain ⟨rfl, hw9⟩ := h9
  subst ws9
  dsimp only [mPush]
  refine r_iret hX hE dX2_dateOf_56 (Nat.le_of_ble_eq_true rfl) (Nat.le_of_ble_eq_true rfl) ⟨by omega, ?_⟩
  exact ⟨rfl, rfl⟩
set_option maxHeartbeats 4000000 in
set_option maxRecDepth 20000 in
theorem z_X2_moveDate (ad : Nat → Nat) (cs : ClassId × ClassId × ClassId) (S : mS) (T : mT2) (rest : va_W) (hS : sWF S) (a0 : Int) (h0 : rJ a0) (a1 : Int) (h1 : rJ a1) (a2 : Int) (h2 : rJ a2) (b3 : Bool)  : mCt (mTy cs) yX2_moveDate cX2_moveDate 8 (some .int) ⟨7, 2, 12, 120⟩ [.ref (ad 0), .int (iZ a0), .int (iZ a1), .int (iZ a2), .int (b2i b3)] (mWd ad cs (mKof S T) rest) (fun v ws' => (((0 ≤ a0 ∧ a0 < 4)) ∧ (0 ≤ a1 ∧ a1 ≤ 7)) ∧ v = some (.int (iZ (oMv S a0.toNat a1 (zSg a2 b3)).1)) ∧ ws' = mWd ad cs (mKof (oMv S a0.toNat a1 (zSg a2 b3)).2 T) rest) (fun E ws' => ws' = mWd ad cs (mKof S T) rest ∧ ((E = xI ∧ ¬ ((0 ≤ a0 ∧ a0 < 4))) ∨ (E = xA ∧ ((0 ≤ a0 ∧ a0 < 4)) ∧ ¬ (0 ≤ a1 ∧ a1 ≤ 7)))) := by
  refine mCt.of (by decide +kernel) (Nat.le_of_ble_eq_true rfl) (fun X hX hE => ?_)
  replace hX : mOK X RX2 cX2_moveDate 8 ⟨7, 2, 12, 120⟩ [] (mTy cs) := hX
  refine r_aload_n hX dX2_moveDate_0 rfl rfl (r_get hX kf_X2_20 0 rfl rfl dX2_moveDate_1 (r_iload_n hX dX2_moveDate_4 rfl rfl (r_callS hX (z_X2_at ad cs _ 3 _ 4 0 rfl (by decide) _ (by first | with_reducible assumption | decide | omega)) ks_X2_84 rfl rfl (Nat.le_of_ble_eq_true rfl) ⟨(Nat.le_of_ble_eq_true rfl), (Nat.le_of_ble_eq_true rfl)⟩ ⟨(Nat.le_of_ble_eq_true rfl), (Nat.le_of_ble_eq_true rfl)⟩ dX2_moveDate_5 (fun E ws9 z => r_out hX hE (Nat.le_of_ble_eq_true rfl) (Nat.le_of_ble_eq_true rfl) ⟨z.2.1, Or.inl ⟨z.1, fun q => z.2.2 (by first | with_reducible assumption | decide | omega)⟩⟩) (fun v9 ws9 h1 => ?_))))
  obtain ⟨hi2, rfl, hw9⟩ := h1
  subst ws9
  dsimp only [mPush]
  refine r_astore hX dX2_moveDate_8 (by decide) rfl (r_iload_n hX dX2_moveDate_10 rfl rfl (r_iconstZ hX dX2_moveDate_11 (r_bipushZ hX dX2_moveDate_12 (by decide +kernel) (r_callS hX (z_X2_requireWithin _ _ _ _ _ (by first | with_reducible assumption | decide | omega) (by first | with_reducible assumption | decide | omega) (by first | with_reducible assumption | decide | omega)) ks_X2_40 rfl rfl (Nat.le_of_ble_eq_true rfl) ⟨(Nat.le_of_ble_eq_true rfl), (Nat.le_of_ble_eq_true rfl)⟩ ⟨(Nat.le_of_ble_eq_true rfl), (Nat.le_of_ble_eq_true rfl)⟩ dX2_moveDate_14 (fun E ws9 z => r_out hX hE (Nat.le_of_ble_eq_true rfl) (Nat.le_of_ble_eq_true rfl) ⟨z.2.1, Or.inr ⟨z.1, by omega, fun q => z.2.2 (by first | with_reducible assumption | decide | omega)⟩⟩) (fun v9 ws9 h3 => ?_)))))
  obtain ⟨hi4, rfl, hw9⟩ := h3
  subst ws9
  dsimp only [mPush]
  refine r_iload_n hX dX2_moveDate_17 rfl rfl (r_iload hX dX2_moveDate_18 rfl ?_)
  have hr := zrg hS (d := a0.toNat) (by omega)
  have hse := hS.2.2.2.1 a0.toNat (by omega)
  have hsd : -21915 ≤ sse S a0.toNat / 86400 ∧ sse S a0.toNat / 86400 ≤ 22279 := by omega
  have hyr := YR_spec hsd.1 hsd.2
  have hmo := MO_b (sse S a0.toNat / 86400)
  refine r_callS hX (z_X2_signed _ _ _ _ (by first | with_reducible assumption | decide | omega)) ks_X2_80 rfl rfl (Nat.le_of_ble_eq_true rfl) ⟨(Nat.le_of_ble_eq_true rfl), (Nat.le_of_ble_eq_true rfl)⟩ ⟨(Nat.le_of_ble_eq_true rfl), (Nat.le_of_ble_eq_true rfl)⟩ dX2_moveDate_20 (fun _ _ z => False.elim z) (fun v9 ws9 h5 => ?_)
  obtain ⟨rfl, hw9⟩ := h5
  subst ws9
  dsimp only [mPush]
  have hsg5 := zSg_b (a := a2) (b := b3) (by omega)
  refine r_lstore hX dX2_moveDate_23 (by decide) rfl (r_iload_n hX dX2_moveDate_25 rfl rfl (r_if_neZ (tgt := 48) hX dX2_moveDate_26 (by decide) (by first | with_reducible assumption | decide | omega) (fun c6 => ?_) (fun c6 => ?_)))
  · refine r_iload_n hX dX2_moveDate_48 rfl rfl (r_iconstZ hX dX2_moveDate_49 (r_icmp_neZ (tgt := 68) hX dX2_moveDate_50 (by decide) (by first | with_reducible assumption | decide | omega) (by decide) (fun c7 => ?_) (fun c7 => ?_)))
    · refine r_aload_n hX dX2_moveDate_68 rfl rfl (r_aload hX dX2_moveDate_69 rfl (r_aload hX dX2_moveDate_71 rfl (r_getN hX kg_X2_146 (a0.toNat + 5) (zWd_loc (d := a0.toNat) (by first | with_reducible assumption | decide | omega)) rfl dX2_moveDate_73 (r_aload hX dX2_moveDate_76 rfl (r_iload_n hX dX2_moveDate_78 rfl rfl (r_lload hX dX2_moveDate_79 rfl (r_callS hX (z_X2_secondsOn _ _ (a0.toNat + 5) _ _ _ _ (zWd_loc (d := a0.toNat) (by first | with_reducible assumption | decide | omega)) (zrg hS (by first | with_reducible assumption | decide | omega)) _ (by first | with_reducible assumption | decide | omega) _ (by first | with_reducible assumption | decide | omega)) ks_X2_150 rfl rfl (Nat.le_of_ble_eq_true rfl) ⟨(Nat.le_of_ble_eq_true rfl), (Nat.le_of_ble_eq_true rfl)⟩ ⟨(Nat.le_of_ble_eq_true rfl), (Nat.le_of_ble_eq_true rfl)⟩ dX2_moveDate_81 (fun _ _ z => False.elim z) (fun v9 ws9 h8 => ?_))))))))
      obtain ⟨rfl, hw9⟩ := h8
      subst ws9
      dsimp only [mPush]
      have hsn8 := zSn_b (n := (sna S a0.toNat)) (u := a1) (b := (zSg a2 b3)) (by omega) (by omega)
      refine r_laddZ hX dX2_moveDate_84 (r_aload hX dX2_moveDate_85 rfl (r_iload_n hX dX2_moveDate_87 rfl rfl (r_lload hX dX2_moveDate_88 rfl (r_callS hX (z_X2_nanoOn _ _ (a0.toNat + 5) _ _ _ _ (zWd_loc (d := a0.toNat) (by first | with_reducible assumption | decide | omega)) (zrg hS (by first | with_reducible assumption | decide | omega)) _ (by first | with_reducible assumption | decide | omega) _ (by first | with_reducible assumption | decide | omega)) ks_X2_154 rfl rfl (Nat.le_of_ble_eq_true rfl) ⟨(Nat.le_of_ble_eq_true rfl), (Nat.le_of_ble_eq_true rfl)⟩ ⟨(Nat.le_of_ble_eq_true rfl), (Nat.le_of_ble_eq_true rfl)⟩ dX2_moveDate_90 (fun _ _ z => False.elim z) (fun v9 ws9 h9 => ?_)))))
      obtain ⟨rfl, hw9⟩ := h9
      subst ws9
      dsimp only [mPush]
      have hnn9 := zNn_b (n := (sna S a0.toNat)) (u := a1) (b := (zSg a2 b3)) (by omega)
      refine r_aload hX dX2_moveDate_93 rfl (r_getN hX kg_X2_158 (a0.toNat + 5) (zWd_loc (d := a0.toNat) (by first | with_reducible assumption | decide | omega)) rfl dX2_moveDate_95 (r_callV hX (z_X2_putLocal ad cs S T rest hS a0.toNat (by first | with_reducible assumption | decide | omega) _ _ _ (by first | with_reducible assumption | decide | omega) (by first | with_reducible assumption | decide | omega) (by first | with_reducible assumption | decide | omega)) kv_X2_132 0 rfl rfl rfl rfl (Nat.le_of_ble_eq_true rfl) ⟨(Nat.le_of_ble_eq_true rfl), (Nat.le_of_ble_eq_true rfl)⟩ ⟨(Nat.le_of_ble_eq_true rfl), (Nat.le_of_ble_eq_true rfl)⟩ dX2_moveDate_98 (fun _ _ z => False.elim z) (fun v9 ws9 h10 => ?_)))
      obtain ⟨rfl, hw9⟩ := h10
      subst ws9
      dsimp only [mPush]
      refine r_iret hX hE dX2_moveDate_101 (Nat.le_of_ble_eq_true rfl) (Nat.le_of_ble_eq_true rfl) ⟨by omega, ?_⟩
      unfold oMv
      rw [if_neg (by omega), if_neg (by omega)]
      exact ⟨rfl, rfl⟩
    · refine r_aload_n hX dX2_moveDate_53 rfl rfl (r_aload hX dX2_moveDate_54 rfl (r_aload hX dX2_moveDate_56 rfl (r_callV hX (z_X1_months _ _ (a0.toNat + 5) _ _ _ _ (zWd_loc (d := a0.toNat) (by first | with_reducible assumption | decide | omega)) (zrg hS (by first | with_reducible assumption | decide | omega)) (by first | with_reducible assumption | decide | omega)) kv_X2_136 (a0.toNat + 5) (zWd_loc (d := a0.toNat) (by first | with_reducible assumption | decide | omega)) rfl rfl rfl (Nat.le_of_ble_eq_true rfl) ⟨(Nat.le_of_ble_eq_true rfl), (Nat.le_of_ble_eq_true rfl)⟩ ⟨(Nat.le_of_ble_eq_true rfl), (Nat.le_of_ble_eq_true rfl)⟩ dX2_moveDate_58 (fun _ _ z => False.elim z) (fun v9 ws9 h11 => ?_))))
      obtain ⟨rfl, hw9⟩ := h11
      subst ws9
      dsimp only [mPush]
      refine r_lload hX dX2_moveDate_61 rfl (r_laddZ hX dX2_moveDate_63 (r_callV hX (z_X2_putMonths ad cs S T rest hS a0.toNat (by first | with_reducible assumption | decide | omega) (by first | with_reducible assumption | decide | omega) _ (by first | with_reducible assumption | decide | omega)) kv_X2_142 0 rfl rfl rfl rfl (Nat.le_of_ble_eq_true rfl) ⟨(Nat.le_of_ble_eq_true rfl), (Nat.le_of_ble_eq_true rfl)⟩ ⟨(Nat.le_of_ble_eq_true rfl), (Nat.le_of_ble_eq_true rfl)⟩ dX2_moveDate_64 (fun _ _ z => False.elim z) (fun v9 ws9 h12 => ?_)))
      obtain ⟨rfl, hw9⟩ := h12
      subst ws9
      dsimp only [mPush]
      refine r_iret hX hE dX2_moveDate_67 (Nat.le_of_ble_eq_true rfl) (Nat.le_of_ble_eq_true rfl) ⟨by omega, ?_⟩
      unfold oMv zMs
      first | rw [if_pos (by omega)] | rw [if_neg (by omega), if_pos (by omega)]
      exact ⟨rfl, rfl⟩
  · refine r_aload_n hX dX2_moveDate_29 rfl rfl (r_aload hX dX2_moveDate_30 rfl (r_aload hX dX2_moveDate_32 rfl (r_callV hX (z_X1_months _ _ (a0.toNat + 5) _ _ _ _ (zWd_loc (d := a0.toNat) (by first | with_reducible assumption | decide | omega)) (zrg hS (by first | with_reducible assumption | decide | omega)) (by first | with_reducible assumption | decide | omega)) kv_X2_136 (a0.toNat + 5) (zWd_loc (d := a0.toNat) (by first | with_reducible assumption | decide | omega)) rfl rfl rfl (Nat.le_of_ble_eq_true rfl) ⟨(Nat.le_of_ble_eq_true rfl), (Nat.le_of_ble_eq_true rfl)⟩ ⟨(Nat.le_of_ble_eq_true rfl), (Nat.le_of_ble_eq_true rfl)⟩ dX2_moveDate_34 (fun _ _ z => False.elim z) (fun v9 ws9 h13 => ?_))))
    obtain ⟨rfl, hw9⟩ := h13
    subst ws9
    dsimp only [mPush]
    refine r_lload hX dX2_moveDate_37 rfl (r_ldc2Z (z := 12) hX kc_X2_140 (by decide +kernel) dX2_moveDate_39 (r_lmulZ hX dX2_moveDate_42 (r_laddZ hX dX2_moveDate_43 (r_callV hX (z_X2_putMonths ad cs S T rest hS a0.toNat (by first | with_reducible assumption | decide | omega) (by first | with_reducible assumption | decide | omega) _ (by first | with_reducible assumption | decide | omega)) kv_X2_142 0 rfl rfl rfl rfl (Nat.le_of_ble_eq_true rfl) ⟨(Nat.le_of_ble_eq_true rfl), (Nat.le_of_ble_eq_true rfl)⟩ ⟨(Nat.le_of_ble_eq_true rfl), (Nat.le_of_ble_eq_true rfl)⟩ dX2_moveDate_44 (fun _ _ z => False.elim z) (fun v9 ws9 h14 => ?_)))))
    obtain ⟨rfl, hw9⟩ := h14
    subst ws9
    dsimp only [mPush]
    refine r_iret hX hE dX2_moveDate_47 (Nat.le_of_ble_eq_true rfl) (Nat.le_of_ble_eq_true rfl) ⟨by omega, ?_⟩
    unfold oMv zMs
    first | rw [if_pos (by omega)] | rw [if_neg (by omega), if_pos (by omega)]
    exact ⟨rfl, rfl⟩
set_option maxHeartbeats 4000000 in
set_option maxRecDepth 20000 in
theorem z_X2_set (ad : Nat → Nat) (cs : ClassId × ClassId × ClassId) (S : mS) (T : mT2) (rest : va_W) (hS : sWF S) (a0 : Int) (h0 : rJ a0) (a1 : Int) (h1 : rJ a1) (a2 : Int) (h2 : rJ a2)  : mCt (mTy cs) yX2_set cX2_set 5 (some .int) ⟨7, 2, 12, 145⟩ [.ref (ad 0), .int (iZ a0), .int (iZ a1), .int (iZ a2)] (mWd ad cs (mKof S T) rest) (fun v ws' => (((0 ≤ a0 ∧ a0 < 4)) ∧ (0 ≤ a1 ∧ a1 ≤ 7)) ∧ v = some (.int (iZ (oSet S a0.toNat a1 a2).1)) ∧ ws' = mWd ad cs (mKof (oSet S a0.toNat a1 a2).2 T) rest) (fun E ws' => ws' = mWd ad cs (mKof S T) rest ∧ ((E = xI ∧ ¬ ((0 ≤ a0 ∧ a0 < 4))) ∨ (E = xA ∧ ((0 ≤ a0 ∧ a0 < 4)) ∧ ¬ (0 ≤ a1 ∧ a1 ≤ 7)))) := by
  refine mCt.of (by decide +kernel) (Nat.le_of_ble_eq_true rfl) (fun X hX hE => ?_)
  replace hX : mOK X RX2 cX2_set 5 ⟨7, 2, 12, 145⟩ [] (mTy cs) := hX
  refine r_aload_n hX dX2_set_0 rfl rfl (r_get hX kf_X2_20 0 rfl rfl dX2_set_1 (r_iload_n hX dX2_set_4 rfl rfl (r_callS hX (z_X2_at ad cs _ 3 _ 4 0 rfl (by decide) _ (by first | with_reducible assumption | decide | omega)) ks_X2_84 rfl rfl (Nat.le_of_ble_eq_true rfl) ⟨(Nat.le_of_ble_eq_true rfl), (Nat.le_of_ble_eq_true rfl)⟩ ⟨(Nat.le_of_ble_eq_true rfl), (Nat.le_of_ble_eq_true rfl)⟩ dX2_set_5 (fun E ws9 z => r_out hX hE (Nat.le_of_ble_eq_true rfl) (Nat.le_of_ble_eq_true rfl) ⟨z.2.1, Or.inl ⟨z.1, fun q => z.2.2 (by first | with_reducible assumption | decide | omega)⟩⟩) (fun v9 ws9 h1 => ?_))))
  obtain ⟨hi2, rfl, hw9⟩ := h1
  subst ws9
  dsimp only [mPush]
  refine r_astore hX dX2_set_8 (by decide) rfl (r_iload_n hX dX2_set_10 rfl rfl (r_iconstZ hX dX2_set_11 (r_bipushZ hX dX2_set_12 (by decide +kernel) (r_callS hX (z_X2_requireWithin _ _ _ _ _ (by first | with_reducible assumption | decide | omega) (by first | with_reducible assumption | decide | omega) (by first | with_reducible assumption | decide | omega)) ks_X2_40 rfl rfl (Nat.le_of_ble_eq_true rfl) ⟨(Nat.le_of_ble_eq_true rfl), (Nat.le_of_ble_eq_true rfl)⟩ ⟨(Nat.le_of_ble_eq_true rfl), (Nat.le_of_ble_eq_true rfl)⟩ dX2_set_14 (fun E ws9 z => r_out hX hE (Nat.le_of_ble_eq_true rfl) (Nat.le_of_ble_eq_true rfl) ⟨z.2.1, Or.inr ⟨z.1, by omega, fun q => z.2.2 (by first | with_reducible assumption | decide | omega)⟩⟩) (fun v9 ws9 h3 => ?_)))))
  obtain ⟨hi4, rfl, hw9⟩ := h3
  subst ws9
  dsimp only [mPush]
  refine r_iload_n hX dX2_set_17 rfl rfl (r_iconstZ hX dX2_set_18 (r_icmp_gtZ (tgt := 33) hX dX2_set_19 (by decide) (by first | with_reducible assumption | decide | omega) (by decide) (fun c5 => ?_) (fun c5 => ?_)))
  · refine r_aload_n hX dX2_set_33 rfl rfl (r_aload hX dX2_set_34 rfl (r_iload_n hX dX2_set_36 rfl rfl (r_iload_n hX dX2_set_37 rfl rfl (r_callV hX (z_X2_setOfTime ad cs S T rest hS a0.toNat (by first | with_reducible assumption | decide | omega) (by first | with_reducible assumption | decide | omega) _ (by first | with_reducible assumption | decide | omega) _ (by first | with_reducible assumption | decide | omega)) kv_X2_166 0 rfl rfl rfl rfl (Nat.le_of_ble_eq_true rfl) ⟨(Nat.le_of_ble_eq_true rfl), (Nat.le_of_ble_eq_true rfl)⟩ ⟨(Nat.le_of_ble_eq_true rfl), (Nat.le_of_ble_eq_true rfl)⟩ dX2_set_38 (fun _ _ z => False.elim z) (fun v9 ws9 h6 => ?_)))))
    obtain ⟨rfl, hw9⟩ := h6
    subst ws9
    dsimp only [mPush]
    refine r_iret hX hE dX2_set_41 (Nat.le_of_ble_eq_true rfl) (Nat.le_of_ble_eq_true rfl) ⟨by omega, ?_⟩
    unfold oSet
    rw [if_neg (by omega)]
    exact ⟨rfl, rfl⟩
  · refine r_aload_n hX dX2_set_22 rfl rfl (r_aload hX dX2_set_23 rfl (r_iload_n hX dX2_set_25 rfl rfl (r_iload_n hX dX2_set_26 rfl rfl (r_callV hX (z_X2_setOfDay ad cs S T rest hS a0.toNat (by first | with_reducible assumption | decide | omega) (by first | with_reducible assumption | decide | omega) _ (by first | with_reducible assumption | decide | omega) _ (by first | with_reducible assumption | decide | omega)) kv_X2_162 0 rfl rfl rfl rfl (Nat.le_of_ble_eq_true rfl) ⟨(Nat.le_of_ble_eq_true rfl), (Nat.le_of_ble_eq_true rfl)⟩ ⟨(Nat.le_of_ble_eq_true rfl), (Nat.le_of_ble_eq_true rfl)⟩ dX2_set_27 (fun _ _ z => False.elim z) (fun v9 ws9 h7 => ?_)))))
    obtain ⟨rfl, hw9⟩ := h7
    subst ws9
    dsimp only [mPush]
    refine r_goto (tgt := 41) hX dX2_set_30 (by decide) (r_iret hX hE dX2_set_41 (Nat.le_of_ble_eq_true rfl) (Nat.le_of_ble_eq_true rfl) ⟨by omega, ?_⟩)
    unfold oSet
    rw [if_pos (by omega)]
    exact ⟨rfl, rfl⟩
set_option maxHeartbeats 4000000 in
set_option maxRecDepth 20000 in
theorem z_X2_anew (ad : Nat → Nat) (cs : ClassId × ClassId × ClassId) (S : mS) (T : mT2) (rest : va_W) (hS : sWF S) (a0 : Int) (h0 : rJ a0) (a1 : Int) (h1 : rJ a1) (b2 : Bool)  : mCt (mTy cs) yX2_anew cX2_anew 8 (some .int) ⟨8, 2, 12, 124⟩ [.ref (ad 0), .int (iZ a0), .int (iZ a1), .int (b2i b2)] (mWd ad cs (mKof S T) rest) (fun v ws' => (((0 ≤ a0 ∧ a0 < 4) ∧ (0 ≤ a1 ∧ a1 < 4)) ∧ (0 ≤ (0 : Int))) ∧ v = some (.int (iZ (oLoc S a0.toNat (cond b2 (sse S a0.toNat) (sse S a0.toNat - sow S a0.toNat + sof S a1.toNat)) (sna S a0.toNat) (sof S a1.toNat)).1)) ∧ ws' = mWd ad cs (mKof (oLoc S a0.toNat (cond b2 (sse S a0.toNat) (sse S a0.toNat - sow S a0.toNat + sof S a1.toNat)) (sna S a0.toNat) (sof S a1.toNat)).2 T) rest) (fun E ws' => ws' = mWd ad cs (mKof S T) rest ∧ ((E = xI ∧ ¬ ((0 ≤ a0 ∧ a0 < 4) ∧ (0 ≤ a1 ∧ a1 < 4))) ∨ (E = xA ∧ ((0 ≤ a0 ∧ a0 < 4) ∧ (0 ≤ a1 ∧ a1 < 4)) ∧ ¬ (0 ≤ (0 : Int))))) := by
  refine mCt.of (by decide +kernel) (Nat.le_of_ble_eq_true rfl) (fun X hX hE => ?_)
  replace hX : mOK X RX2 cX2_anew 8 ⟨8, 2, 12, 124⟩ [] (mTy cs) := hX
  refine r_aload_n hX dX2_anew_0 rfl rfl (r_get hX kf_X2_20 0 rfl rfl dX2_anew_1 (r_iload_n hX dX2_anew_4 rfl rfl (r_callS hX (z_X2_at ad cs _ 3 _ 4 0 rfl (by decide) _ (by first | with_reducible assumption | decide | omega)) ks_X2_84 rfl rfl (Nat.le_of_ble_eq_true rfl) ⟨(Nat.le_of_ble_eq_true rfl), (Nat.le_of_ble_eq_true rfl)⟩ ⟨(Nat.le_of_ble_eq_true rfl), (Nat.le_of_ble_eq_true rfl)⟩ dX2_anew_5 (fun E ws9 z => r_out hX hE (Nat.le_of_ble_eq_true rfl) (Nat.le_of_ble_eq_true rfl) ⟨z.2.1, Or.inl ⟨z.1, fun q => z.2.2 (by first | with_reducible assumption | decide | omega)⟩⟩) (fun v9 ws9 h1 => ?_))))
  obtain ⟨hi2, rfl, hw9⟩ := h1
  subst ws9
  dsimp only [mPush]
  refine r_astore hX dX2_anew_8 (by decide) rfl (r_aload_n hX dX2_anew_10 rfl rfl (r_iload_n hX dX2_anew_11 rfl rfl ?_))
  have hr0 := zrg hS (d := a0.toNat) (by omega)
  refine r_callV hX (z_X2_seconds ad cs S T rest hS _ (by first | with_reducible assumption | decide | omega)) kv_X2_64 0 rfl rfl rfl rfl (Nat.le_of_ble_eq_true rfl) ⟨(Nat.le_of_ble_eq_true rfl), (Nat.le_of_ble_eq_true rfl)⟩ ⟨(Nat.le_of_ble_eq_true rfl), (Nat.le_of_ble_eq_true rfl)⟩ dX2_anew_12 (fun E ws9 z => r_out hX hE (Nat.le_of_ble_eq_true rfl) (Nat.le_of_ble_eq_true rfl) ⟨z.2.1, Or.inl ⟨z.1, fun q => z.2.2 (by first | with_reducible assumption | decide | omega)⟩⟩) (fun v9 ws9 h3 => ?_)
  obtain ⟨hi4, rfl, hw9⟩ := h3
  subst ws9
  dsimp only [mPush]
  have hof4 := hS.1 a1.toNat (by omega)
  refine r_istore hX dX2_anew_15 (by decide) rfl (r_iload_n hX dX2_anew_17 rfl rfl (r_if_eqB (tgt := 29) hX dX2_anew_18 (by decide) (fun c5 => ?_) (fun c5 => ?_)))
  · have c5 := id c5
    refine r_aload hX dX2_anew_29 rfl (r_callV hX (z_X1_momentSecond _ _ (a0.toNat + 5) _ _ _ _ (zWd_loc (d := a0.toNat) (by first | with_reducible assumption | decide | omega)) (zrg hS (by first | with_reducible assumption | decide | omega))) kv_X2_169 (a0.toNat + 5) (zWd_loc (d := a0.toNat) (by first | with_reducible assumption | decide | omega)) rfl rfl rfl (Nat.le_of_ble_eq_true rfl) ⟨(Nat.le_of_ble_eq_true rfl), (Nat.le_of_ble_eq_true rfl)⟩ ⟨(Nat.le_of_ble_eq_true rfl), (Nat.le_of_ble_eq_true rfl)⟩ dX2_anew_31 (fun _ _ z => False.elim z) (fun v9 ws9 h6 => ?_))
    obtain ⟨rfl, hw9⟩ := h6
    subst ws9
    dsimp only [mPush]
    refine r_iload hX dX2_anew_34 rfl (r_i2lZ hX dX2_anew_36 (by first | with_reducible assumption | decide | omega) (r_laddZ hX dX2_anew_37 (r_lstore hX dX2_anew_38 (by decide) rfl (r_aload_n hX dX2_anew_40 rfl rfl (r_aload hX dX2_anew_41 rfl (r_lload hX dX2_anew_43 rfl (r_aload hX dX2_anew_45 rfl ?_)))))))
    refine r_getN hX kg_X2_172 (a0.toNat + 5) (zWd_loc (d := a0.toNat) (by first | with_reducible assumption | decide | omega)) rfl dX2_anew_47 (r_iload hX dX2_anew_50 rfl (r_callV hX (z_X2_putLocal ad cs S T rest hS a0.toNat (by first | with_reducible assumption | decide | omega) _ _ _ (by first | with_reducible assumption | decide | omega) (by first | with_reducible assumption | decide | omega) (by first | with_reducible assumption | decide | omega)) kv_X2_132 0 rfl rfl rfl rfl (Nat.le_of_ble_eq_true rfl) ⟨(Nat.le_of_ble_eq_true rfl), (Nat.le_of_ble_eq_true rfl)⟩ ⟨(Nat.le_of_ble_eq_true rfl), (Nat.le_of_ble_eq_true rfl)⟩ dX2_anew_52 (fun _ _ z => False.elim z) (fun v9 ws9 h7 => ?_)))
    obtain ⟨rfl, hw9⟩ := h7
    subst ws9
    dsimp only [mPush]
    refine r_iret hX hE dX2_anew_55 (Nat.le_of_ble_eq_true rfl) (Nat.le_of_ble_eq_true rfl) ⟨by omega, ?_⟩
    first | (rw [show b2 = true by assumption]; exact ⟨rfl, rfl⟩) | (rw [show b2 = false by assumption]; exact ⟨rfl, rfl⟩)
  · have c5 := id c5
    refine r_aload hX dX2_anew_21 rfl (r_getN hX kg_X2_146 (a0.toNat + 5) (zWd_loc (d := a0.toNat) (by first | with_reducible assumption | decide | omega)) rfl dX2_anew_23 (r_goto (tgt := 38) hX dX2_anew_26 (by decide) (r_lstore hX dX2_anew_38 (by decide) rfl (r_aload_n hX dX2_anew_40 rfl rfl (r_aload hX dX2_anew_41 rfl (r_lload hX dX2_anew_43 rfl (r_aload hX dX2_anew_45 rfl ?_)))))))
    refine r_getN hX kg_X2_172 (a0.toNat + 5) (zWd_loc (d := a0.toNat) (by first | with_reducible assumption | decide | omega)) rfl dX2_anew_47 (r_iload hX dX2_anew_50 rfl (r_callV hX (z_X2_putLocal ad cs S T rest hS a0.toNat (by first | with_reducible assumption | decide | omega) _ _ _ (by first | with_reducible assumption | decide | omega) (by first | with_reducible assumption | decide | omega) (by first | with_reducible assumption | decide | omega)) kv_X2_132 0 rfl rfl rfl rfl (Nat.le_of_ble_eq_true rfl) ⟨(Nat.le_of_ble_eq_true rfl), (Nat.le_of_ble_eq_true rfl)⟩ ⟨(Nat.le_of_ble_eq_true rfl), (Nat.le_of_ble_eq_true rfl)⟩ dX2_anew_52 (fun _ _ z => False.elim z) (fun v9 ws9 h8 => ?_)))
    obtain ⟨rfl, hw9⟩ := h8
    subst ws9
    dsimp only [mPush]
    refine r_iret hX hE dX2_anew_55 (Nat.le_of_ble_eq_true rfl) (Nat.le_of_ble_eq_true rfl) ⟨by omega, ?_⟩
    first | (rw [show b2 = true by assumption]; exact ⟨rfl, rfl⟩) | (rw [show b2 = false by assumption]; exact ⟨rfl, rfl⟩)
set_option maxHeartbeats 4000000 in
set_option maxRecDepth 20000 in
theorem z_X2_copy (ad : Nat → Nat) (cs : ClassId × ClassId × ClassId) (S : mS) (T : mT2) (rest : va_W) (hS : sWF S) (a0 : Int) (h0 : rJ a0) (a1 : Int) (h1 : rJ a1)  : mCt (mTy cs) yX2_copy cX2_copy 5 (some .int) ⟨7, 2, 12, 103⟩ [.ref (ad 0), .int (iZ a0), .int (iZ a1)] (mWd ad cs (mKof S T) rest) (fun v ws' => (((0 ≤ a0 ∧ a0 < 4) ∧ (0 ≤ a1 ∧ a1 < 4)) ∧ (0 ≤ (0 : Int))) ∧ v = some (.int (iZ (oLoc S a0.toNat (sse S a1.toNat) (sna S a1.toNat) (sow S a1.toNat)).1)) ∧ ws' = mWd ad cs (mKof (oLoc S a0.toNat (sse S a1.toNat) (sna S a1.toNat) (sow S a1.toNat)).2 T) rest) (fun E ws' => ws' = mWd ad cs (mKof S T) rest ∧ ((E = xI ∧ ¬ ((0 ≤ a0 ∧ a0 < 4) ∧ (0 ≤ a1 ∧ a1 < 4))) ∨ (E = xA ∧ ((0 ≤ a0 ∧ a0 < 4) ∧ (0 ≤ a1 ∧ a1 < 4)) ∧ ¬ (0 ≤ (0 : Int))))) := by
  refine mCt.of (by decide +kernel) (Nat.le_of_ble_eq_true rfl) (fun X hX hE => ?_)
  replace hX : mOK X RX2 cX2_copy 5 ⟨7, 2, 12, 103⟩ [] (mTy cs) := hX
  refine r_aload_n hX dX2_copy_0 rfl rfl (r_get hX kf_X2_20 0 rfl rfl dX2_copy_1 (r_iload_n hX dX2_copy_4 rfl rfl (r_callS hX (z_X2_at ad cs _ 3 _ 4 0 rfl (by decide) _ (by first | with_reducible assumption | decide | omega)) ks_X2_84 rfl rfl (Nat.le_of_ble_eq_true rfl) ⟨(Nat.le_of_ble_eq_true rfl), (Nat.le_of_ble_eq_true rfl)⟩ ⟨(Nat.le_of_ble_eq_true rfl), (Nat.le_of_ble_eq_true rfl)⟩ dX2_copy_5 (fun E ws9 z => r_out hX hE (Nat.le_of_ble_eq_true rfl) (Nat.le_of_ble_eq_true rfl) ⟨z.2.1, Or.inl ⟨z.1, fun q => z.2.2 (by first | with_reducible assumption | decide | omega)⟩⟩) (fun v9 ws9 h1 => ?_))))
  obtain ⟨hi2, rfl, hw9⟩ := h1
  subst ws9
  dsimp only [mPush]
  refine r_astore_n hX dX2_copy_8 rfl (by decide) rfl (r_aload_n hX dX2_copy_9 rfl rfl (r_get hX kf_X2_20 0 rfl rfl dX2_copy_10 (r_iload_n hX dX2_copy_13 rfl rfl (r_callS hX (z_X2_at ad cs _ 3 _ 4 0 rfl (by decide) _ (by first | with_reducible assumption | decide | omega)) ks_X2_84 rfl rfl (Nat.le_of_ble_eq_true rfl) ⟨(Nat.le_of_ble_eq_true rfl), (Nat.le_of_ble_eq_true rfl)⟩ ⟨(Nat.le_of_ble_eq_true rfl), (Nat.le_of_ble_eq_true rfl)⟩ dX2_copy_14 (fun E ws9 z => r_out hX hE (Nat.le_of_ble_eq_true rfl) (Nat.le_of_ble_eq_true rfl) ⟨z.2.1, Or.inl ⟨z.1, fun q => z.2.2 (by first | with_reducible assumption | decide | omega)⟩⟩) (fun v9 ws9 h3 => ?_)))))
  obtain ⟨hi4, rfl, hw9⟩ := h3
  subst ws9
  dsimp only [mPush]
  refine r_astore hX dX2_copy_17 (by decide) rfl (r_aload_n hX dX2_copy_19 rfl rfl (r_aload_n hX dX2_copy_20 rfl rfl (r_aload hX dX2_copy_21 rfl (r_getN hX kg_X2_146 (a1.toNat + 5) (zWd_loc (d := a1.toNat) (by first | with_reducible assumption | decide | omega)) rfl dX2_copy_23 (r_aload hX dX2_copy_26 rfl (r_getN hX kg_X2_172 (a1.toNat + 5) (zWd_loc (d := a1.toNat) (by first | with_reducible assumption | decide | omega)) rfl dX2_copy_28 (r_aload hX dX2_copy_31 rfl ?_)))))))
  refine r_getN hX kg_X2_158 (a1.toNat + 5) (zWd_loc (d := a1.toNat) (by first | with_reducible assumption | decide | omega)) rfl dX2_copy_33 ?_
  have hr1 := zrg hS (d := a1.toNat) (by omega)
  refine r_callV hX (z_X2_putLocal ad cs S T rest hS a0.toNat (by first | with_reducible assumption | decide | omega) _ _ _ (by first | with_reducible assumption | decide | omega) (by first | with_reducible assumption | decide | omega) (by first | with_reducible assumption | decide | omega)) kv_X2_132 0 rfl rfl rfl rfl (Nat.le_of_ble_eq_true rfl) ⟨(Nat.le_of_ble_eq_true rfl), (Nat.le_of_ble_eq_true rfl)⟩ ⟨(Nat.le_of_ble_eq_true rfl), (Nat.le_of_ble_eq_true rfl)⟩ dX2_copy_36 (fun _ _ z => False.elim z) (fun v9 ws9 h5 => ?_)
  obtain ⟨rfl, hw9⟩ := h5
  subst ws9
  dsimp only [mPush]
  refine r_iret hX hE dX2_copy_39 (Nat.le_of_ble_eq_true rfl) (Nat.le_of_ble_eq_true rfl) ⟨by omega, ?_⟩
  exact ⟨rfl, rfl⟩
set_option maxHeartbeats 4000000 in
set_option maxRecDepth 20000 in
theorem z_X2_ofDate (ad : Nat → Nat) (cs : ClassId × ClassId × ClassId) (S : mS) (T : mT2) (rest : va_W) (hS : sWF S) (a0 : Int) (h0 : rJ a0) (a1 : Int) (h1 : rJ a1)  : mCt (mTy cs) yX2_ofDate cX2_ofDate 4 (some .int) ⟨7, 2, 12, 107⟩ [.ref (ad 0), .int (iZ a0), .int (iZ a1)] (mWd ad cs (mKof S T) rest) (fun v ws' => (((0 ≤ a0 ∧ a0 < 4)) ∧ (0 ≤ a1 ∧ a1 ≤ 12)) ∧ v = some (.int (iZ (zDP (sse S a0.toNat) (sna S a0.toNat) (sow S a0.toNat) a1))) ∧ ws' = mWd ad cs (mKof S T) rest) (fun E ws' => ws' = mWd ad cs (mKof S T) rest ∧ ((E = xI ∧ ¬ ((0 ≤ a0 ∧ a0 < 4))) ∨ (E = xA ∧ ((0 ≤ a0 ∧ a0 < 4)) ∧ ¬ (0 ≤ a1 ∧ a1 ≤ 12)))) := by
  refine mCt.of (by decide +kernel) (Nat.le_of_ble_eq_true rfl) (fun X hX hE => ?_)
  replace hX : mOK X RX2 cX2_ofDate 4 ⟨7, 2, 12, 107⟩ [] (mTy cs) := hX
  refine r_aload_n hX dX2_ofDate_0 rfl rfl (r_get hX kf_X2_20 0 rfl rfl dX2_ofDate_1 (r_iload_n hX dX2_ofDate_4 rfl rfl (r_callS hX (z_X2_at ad cs _ 3 _ 4 0 rfl (by decide) _ (by first | with_reducible assumption | decide | omega)) ks_X2_84 rfl rfl (Nat.le_of_ble_eq_true rfl) ⟨(Nat.le_of_ble_eq_true rfl), (Nat.le_of_ble_eq_true rfl)⟩ ⟨(Nat.le_of_ble_eq_true rfl), (Nat.le_of_ble_eq_true rfl)⟩ dX2_ofDate_5 (fun E ws9 z => r_out hX hE (Nat.le_of_ble_eq_true rfl) (Nat.le_of_ble_eq_true rfl) ⟨z.2.1, Or.inl ⟨z.1, fun q => z.2.2 (by first | with_reducible assumption | decide | omega)⟩⟩) (fun v9 ws9 h1 => ?_))))
  obtain ⟨hi2, rfl, hw9⟩ := h1
  subst ws9
  dsimp only [mPush]
  refine r_astore_n hX dX2_ofDate_8 rfl (by decide) rfl (r_iload_n hX dX2_ofDate_9 rfl rfl (r_iconstZ hX dX2_ofDate_10 (r_bipushZ hX dX2_ofDate_11 (by decide +kernel) (r_callS hX (z_X2_requireWithin _ _ _ _ _ (by first | with_reducible assumption | decide | omega) (by first | with_reducible assumption | decide | omega) (by first | with_reducible assumption | decide | omega)) ks_X2_40 rfl rfl (Nat.le_of_ble_eq_true rfl) ⟨(Nat.le_of_ble_eq_true rfl), (Nat.le_of_ble_eq_true rfl)⟩ ⟨(Nat.le_of_ble_eq_true rfl), (Nat.le_of_ble_eq_true rfl)⟩ dX2_ofDate_13 (fun E ws9 z => r_out hX hE (Nat.le_of_ble_eq_true rfl) (Nat.le_of_ble_eq_true rfl) ⟨z.2.1, Or.inr ⟨z.1, by omega, fun q => z.2.2 (by first | with_reducible assumption | decide | omega)⟩⟩) (fun v9 ws9 h3 => ?_)))))
  obtain ⟨hi4, rfl, hw9⟩ := h3
  subst ws9
  dsimp only [mPush]
  refine r_aload_n hX dX2_ofDate_16 rfl rfl (r_iload_n hX dX2_ofDate_17 rfl rfl ?_)
  have hse := hS.2.2.2.1 a0.toNat (by omega)
  refine r_callS hX (z_X2_datePart _ _ (a0.toNat + 5) _ _ _ _ (zWd_loc (d := a0.toNat) (by first | with_reducible assumption | decide | omega)) (zrg hS (by first | with_reducible assumption | decide | omega)) _ (by first | with_reducible assumption | decide | omega) (by first | with_reducible assumption | decide | omega)) ks_X2_175 rfl rfl (Nat.le_of_ble_eq_true rfl) ⟨(Nat.le_of_ble_eq_true rfl), (Nat.le_of_ble_eq_true rfl)⟩ ⟨(Nat.le_of_ble_eq_true rfl), (Nat.le_of_ble_eq_true rfl)⟩ dX2_ofDate_18 (fun _ _ z => False.elim z) (fun v9 ws9 h5 => ?_)
  obtain ⟨rfl, hw9⟩ := h5
  subst ws9
  dsimp only [mPush]
  refine r_iret hX hE dX2_ofDate_21 (Nat.le_of_ble_eq_true rfl) (Nat.le_of_ble_eq_true rfl) ⟨by omega, zi ?_, rfl⟩
  rfl
set_option maxHeartbeats 4000000 in
set_option maxRecDepth 20000 in
theorem z_X2_orderDate (ad : Nat → Nat) (cs : ClassId × ClassId × ClassId) (S : mS) (T : mT2) (rest : va_W) (hS : sWF S) (a0 : Int) (h0 : rJ a0) (a1 : Int) (h1 : rJ a1)  : mCt (mTy cs) yX2_orderDate cX2_orderDate 3 (some .int) ⟨7, 2, 12, 103⟩ [.ref (ad 0), .int (iZ a0), .int (iZ a1)] (mWd ad cs (mKof S T) rest) (fun v ws' => (((0 ≤ a0 ∧ a0 < 4) ∧ (0 ≤ a1 ∧ a1 < 4)) ∧ (0 ≤ (0 : Int))) ∧ v = some (.int (iZ (zTo (sse S a0.toNat) (sna S a0.toNat) (sow S a0.toNat) (sse S a1.toNat) (sna S a1.toNat) (sow S a1.toNat)))) ∧ ws' = mWd ad cs (mKof S T) rest) (fun E ws' => ws' = mWd ad cs (mKof S T) rest ∧ ((E = xI ∧ ¬ ((0 ≤ a0 ∧ a0 < 4) ∧ (0 ≤ a1 ∧ a1 < 4))) ∨ (E = xA ∧ ((0 ≤ a0 ∧ a0 < 4) ∧ (0 ≤ a1 ∧ a1 < 4)) ∧ ¬ (0 ≤ (0 : Int))))) := by
  refine mCt.of (by decide +kernel) (Nat.le_of_ble_eq_true rfl) (fun X hX hE => ?_)
  replace hX : mOK X RX2 cX2_orderDate 3 ⟨7, 2, 12, 103⟩ [] (mTy cs) := hX
  refine r_aload_n hX dX2_orderDate_0 rfl rfl (r_get hX kf_X2_20 0 rfl rfl dX2_orderDate_1 (r_iload_n hX dX2_orderDate_4 rfl rfl (r_callS hX (z_X2_at ad cs _ 3 _ 4 0 rfl (by decide) _ (by first | with_reducible assumption | decide | omega)) ks_X2_84 rfl rfl (Nat.le_of_ble_eq_true rfl) ⟨(Nat.le_of_ble_eq_true rfl), (Nat.le_of_ble_eq_true rfl)⟩ ⟨(Nat.le_of_ble_eq_true rfl), (Nat.le_of_ble_eq_true rfl)⟩ dX2_orderDate_5 (fun E ws9 z => r_out hX hE (Nat.le_of_ble_eq_true rfl) (Nat.le_of_ble_eq_true rfl) ⟨z.2.1, Or.inl ⟨z.1, fun q => z.2.2 (by first | with_reducible assumption | decide | omega)⟩⟩) (fun v9 ws9 h1 => ?_))))
  obtain ⟨hi2, rfl, hw9⟩ := h1
  subst ws9
  dsimp only [mPush]
  refine r_aload_n hX dX2_orderDate_8 rfl rfl (r_get hX kf_X2_20 0 rfl rfl dX2_orderDate_9 (r_iload_n hX dX2_orderDate_12 rfl rfl (r_callS hX (z_X2_at ad cs _ 3 _ 4 0 rfl (by decide) _ (by first | with_reducible assumption | decide | omega)) ks_X2_84 rfl rfl (Nat.le_of_ble_eq_true rfl) ⟨(Nat.le_of_ble_eq_true rfl), (Nat.le_of_ble_eq_true rfl)⟩ ⟨(Nat.le_of_ble_eq_true rfl), (Nat.le_of_ble_eq_true rfl)⟩ dX2_orderDate_13 (fun E ws9 z => r_out hX hE (Nat.le_of_ble_eq_true rfl) (Nat.le_of_ble_eq_true rfl) ⟨z.2.1, Or.inl ⟨z.1, fun q => z.2.2 (by first | with_reducible assumption | decide | omega)⟩⟩) (fun v9 ws9 h3 => ?_))))
  obtain ⟨hi4, rfl, hw9⟩ := h3
  subst ws9
  dsimp only [mPush]
  refine r_callV hX (z_X1_orderTo _ _ (a0.toNat + 5) _ _ _ _ (zWd_loc (d := a0.toNat) (by first | with_reducible assumption | decide | omega)) (zrg hS (by first | with_reducible assumption | decide | omega)) (a1.toNat + 5) _ _ _ _ (zWd_loc (d := a1.toNat) (by first | with_reducible assumption | decide | omega)) (zrg hS (by first | with_reducible assumption | decide | omega))) kv_X2_179 (a0.toNat + 5) (zWd_loc (d := a0.toNat) (by first | with_reducible assumption | decide | omega)) rfl rfl rfl (Nat.le_of_ble_eq_true rfl) ⟨(Nat.le_of_ble_eq_true rfl), (Nat.le_of_ble_eq_true rfl)⟩ ⟨(Nat.le_of_ble_eq_true rfl), (Nat.le_of_ble_eq_true rfl)⟩ dX2_orderDate_16 (fun _ _ z => False.elim z) (fun v9 ws9 h5 => ?_)
  obtain ⟨rfl, hw9⟩ := h5
  subst ws9
  dsimp only [mPush]
  have hb5 := zTo_b (sse S a0.toNat) (sna S a0.toNat) (sow S a0.toNat) (sse S a1.toNat) (sna S a1.toNat) (sow S a1.toNat)
  refine r_iret hX hE dX2_orderDate_19 (Nat.le_of_ble_eq_true rfl) (Nat.le_of_ble_eq_true rfl) ⟨by omega, zi ?_, rfl⟩
  rfl
set_option maxHeartbeats 4000000 in
set_option maxRecDepth 20000 in
theorem z_X2_isDate (ad : Nat → Nat) (cs : ClassId × ClassId × ClassId) (S : mS) (T : mT2) (rest : va_W) (hS : sWF S) (a0 : Int) (h0 : rJ a0) (a1 : Int) (h1 : rJ a1) (a2 : Int) (h2 : rJ a2)  : mCt (mTy cs) yX2_isDate cX2_isDate 6 (some .boolean) ⟨7, 3, 18, 104⟩ [.ref (ad 0), .int (iZ a0), .int (iZ a1), .int (iZ a2)] (mWd ad cs (mKof S T) rest) (fun v ws' => (((0 ≤ a0 ∧ a0 < 4) ∧ (0 ≤ a1 ∧ a1 < 4)) ∧ (0 ≤ a2 ∧ a2 ≤ 3)) ∧ v = some (.int (b2i (zSo (sse S a0.toNat) (sna S a0.toNat) (sow S a0.toNat) (sse S a1.toNat) (sna S a1.toNat) (sow S a1.toNat) a2))) ∧ ws' = mWd ad cs (mKof S T) rest) (fun E ws' => ws' = mWd ad cs (mKof S T) rest ∧ ((E = xI ∧ ¬ ((0 ≤ a0 ∧ a0 < 4) ∧ (0 ≤ a1 ∧ a1 < 4))) ∨ (E = xA ∧ ((0 ≤ a0 ∧ a0 < 4) ∧ (0 ≤ a1 ∧ a1 < 4)) ∧ ¬ (0 ≤ a2 ∧ a2 ≤ 3)))) := by
  refine mCt.of (by decide +kernel) (Nat.le_of_ble_eq_true rfl) (fun X hX hE => ?_)
  replace hX : mOK X RX2 cX2_isDate 6 ⟨7, 3, 18, 104⟩ [] (mTy cs) := hX
  refine r_aload_n hX dX2_isDate_0 rfl rfl (r_get hX kf_X2_20 0 rfl rfl dX2_isDate_1 (r_iload_n hX dX2_isDate_4 rfl rfl (r_callS hX (z_X2_at ad cs _ 3 _ 4 0 rfl (by decide) _ (by first | with_reducible assumption | decide | omega)) ks_X2_84 rfl rfl (Nat.le_of_ble_eq_true rfl) ⟨(Nat.le_of_ble_eq_true rfl), (Nat.le_of_ble_eq_true rfl)⟩ ⟨(Nat.le_of_ble_eq_true rfl), (Nat.le_of_ble_eq_true rfl)⟩ dX2_isDate_5 (fun E ws9 z => r_out hX hE (Nat.le_of_ble_eq_true rfl) (Nat.le_of_ble_eq_true rfl) ⟨z.2.1, Or.inl ⟨z.1, fun q => z.2.2 (by first | with_reducible assumption | decide | omega)⟩⟩) (fun v9 ws9 h1 => ?_))))
  obtain ⟨hi2, rfl, hw9⟩ := h1
  subst ws9
  dsimp only [mPush]
  refine r_astore hX dX2_isDate_8 (by decide) rfl (r_aload_n hX dX2_isDate_10 rfl rfl (r_get hX kf_X2_20 0 rfl rfl dX2_isDate_11 (r_iload_n hX dX2_isDate_14 rfl rfl (r_callS hX (z_X2_at ad cs _ 3 _ 4 0 rfl (by decide) _ (by first | with_reducible assumption | decide | omega)) ks_X2_84 rfl rfl (Nat.le_of_ble_eq_true rfl) ⟨(Nat.le_of_ble_eq_true rfl), (Nat.le_of_ble_eq_true rfl)⟩ ⟨(Nat.le_of_ble_eq_true rfl), (Nat.le_of_ble_eq_true rfl)⟩ dX2_isDate_15 (fun E ws9 z => r_out hX hE (Nat.le_of_ble_eq_true rfl) (Nat.le_of_ble_eq_true rfl) ⟨z.2.1, Or.inl ⟨z.1, fun q => z.2.2 (by first | with_reducible assumption | decide | omega)⟩⟩) (fun v9 ws9 h3 => ?_)))))
  obtain ⟨hi4, rfl, hw9⟩ := h3
  subst ws9
  dsimp only [mPush]
  refine r_astore hX dX2_isDate_18 (by decide) rfl (r_iload_n hX dX2_isDate_20 rfl rfl (r_iconstZ hX dX2_isDate_21 (r_iconstZ hX dX2_isDate_22 (r_callS hX (z_X2_requireWithin _ _ _ _ _ (by first | with_reducible assumption | decide | omega) (by first | with_reducible assumption | decide | omega) (by first | with_reducible assumption | decide | omega)) ks_X2_40 rfl rfl (Nat.le_of_ble_eq_true rfl) ⟨(Nat.le_of_ble_eq_true rfl), (Nat.le_of_ble_eq_true rfl)⟩ ⟨(Nat.le_of_ble_eq_true rfl), (Nat.le_of_ble_eq_true rfl)⟩ dX2_isDate_23 (fun E ws9 z => r_out hX hE (Nat.le_of_ble_eq_true rfl) (Nat.le_of_ble_eq_true rfl) ⟨z.2.1, Or.inr ⟨z.1, by omega, fun q => z.2.2 (by first | with_reducible assumption | decide | omega)⟩⟩) (fun v9 ws9 h5 => ?_)))))
  obtain ⟨hi6, rfl, hw9⟩ := h5
  subst ws9
  dsimp only [mPush]
  refine r_aload hX dX2_isDate_26 rfl (r_aload hX dX2_isDate_28 rfl (r_iload_n hX dX2_isDate_30 rfl rfl (r_callS hX (z_X2_isSo _ _ (a0.toNat + 5) _ _ _ _ (zWd_loc (d := a0.toNat) (by first | with_reducible assumption | decide | omega)) (zrg hS (by first | with_reducible assumption | decide | omega)) (a1.toNat + 5) _ _ _ _ (zWd_loc (d := a1.toNat) (by first | with_reducible assumption | decide | omega)) (zrg hS (by first | with_reducible assumption | decide | omega)) _ (by first | with_reducible assumption | decide | omega)) ks_X2_183 rfl rfl (Nat.le_of_ble_eq_true rfl) ⟨(Nat.le_of_ble_eq_true rfl), (Nat.le_of_ble_eq_true rfl)⟩ ⟨(Nat.le_of_ble_eq_true rfl), (Nat.le_of_ble_eq_true rfl)⟩ dX2_isDate_31 (fun _ _ z => False.elim z) (fun v9 ws9 h7 => ?_))))
  obtain ⟨rfl, hw9⟩ := h7
  subst ws9
  dsimp only [mPush]
  refine r_zret hX hE dX2_isDate_34 (b2i_n _) (Nat.le_of_ble_eq_true rfl) (Nat.le_of_ble_eq_true rfl) ⟨by omega, zb ?_, rfl⟩
  rfl
end
