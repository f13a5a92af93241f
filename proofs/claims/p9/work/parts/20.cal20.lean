/-! The reference, its contracts (rows by a program of this repository). -/
/-! THE CALENDAR, by years as naturals and days as whole numbers. (Own work.) -/
abbrev iZ (z : Int) : Int32 := Int32.ofInt z
theorem iZ_toInt {z : Int} (h1 : -2147483648 ≤ z) (h2 : z < 2147483648) : (iZ z).toInt = z := Int32.toInt_ofInt_of_le (by omega) (by omega)
theorem iZ_nI (n : Nat) : nI n = iZ n := Int32.ofInt_eq_ofNat.symm
theorem iZ_add (a b : Int) : iZ a + iZ b = iZ (a + b) := (Int32.ofInt_add a b).symm
theorem iZ_sub (a b : Int) : iZ a - iZ b = iZ (a - b) := (Int32.ofInt_sub a b).symm
theorem iZ_le {a b : Int} (h1 : -2147483648 ≤ a) (h2 : a < 2147483648) (h3 : -2147483648 ≤ b) (h4 : b < 2147483648) : iZ a ≤ iZ b ↔ a ≤ b := by
  rw [Int32.le_iff_toInt_le, iZ_toInt h1 h2, iZ_toInt h3 h4]
theorem iZ_lt {a b : Int} (h1 : -2147483648 ≤ a) (h2 : a < 2147483648) (h3 : -2147483648 ≤ b) (h4 : b < 2147483648) : iZ a < iZ b ↔ a < b := by
  rw [Int32.lt_iff_toInt_lt, iZ_toInt h1 h2, iZ_toInt h3 h4]
def leapb (y : Nat) : Bool := y % 400 == 0 || (y % 4 == 0 && !(y % 100 == 0))
def yl (y : Nat) : Nat := if leapb y = true then 366 else 365
def dm (y m : Nat) : Nat := if m = 2 then (if leapb y = true then 29 else 28) else if m = 4 ∨ m = 6 ∨ m = 9 ∨ m = 11 then 30 else 31
/-- the epoch day of a year's first of January -/
def FO (y : Nat) : Int := 365 * ((y : Int) - 1970) + ((y : Int) - 1) / 4 - ((y : Int) - 1) / 100 + ((y : Int) - 1) / 400 - 477
/-- the days ahead of a month -/
def DB (y : Nat) : Nat → Int
  | 0 => 0
  | m + 1 => DB y m + (if m = 0 then 0 else (dm y m : Int))
theorem mlp_k {y : Nat} {k : Int} (h : y < 2100) (h1 : 1 ≤ k) (h2 : k ≤ 400) : (nI y - nI y / iZ k * iZ k = 0) ↔ (y : Int) % k = 0 := by
  have hm : iZ (y : Int) ≠ Int32.minValue := by
    intro q
    have h5 := congrArg Int32.toInt q
    rw [iZ_toInt (by omega) (by omega)] at h5
    have h6 : Int32.minValue.toInt = -2147483648 := rfl
    omega
  have hq : 0 ≤ (y : Int) / k ∧ (y : Int) / k ≤ y := ⟨Int.ediv_nonneg (by omega) (by omega), Int.ediv_le_self k (by omega)⟩
  have hd : iZ (y : Int) / iZ k = iZ ((y : Int) / k) := by
    apply Int32.toInt_inj.mp
    rw [Int32.toInt_div_of_ne_left _ _ hm, iZ_toInt (by omega) (by omega), iZ_toInt (by omega) (by omega), iZ_toInt (by omega) (by omega), Int.tdiv_eq_ediv_of_nonneg (by omega)]
  have hmul : iZ ((y : Int) / k) * iZ k = iZ ((y : Int) / k * k) := (Int32.ofInt_mul _ _).symm
  have hmod : (y : Int) - (y : Int) / k * k = (y : Int) % k := by rw [Int.emod_def, Int.mul_comm]
  have hr : 0 ≤ (y : Int) % k ∧ (y : Int) % k < k := ⟨Int.emod_nonneg _ (by omega), Int.emod_lt_of_pos _ (by omega)⟩
  rw [iZ_nI, hd, hmul, iZ_sub, hmod]
  constructor
  · intro q
    have h5 := congrArg Int32.toInt q
    rw [iZ_toInt (by omega) (by omega)] at h5
    have h6 : (0 : Int32).toInt = 0 := rfl
    omega
  · intro q
    exact (congrArg iZ q).trans (by decide +kernel)
theorem mlp400 {y : Nat} (h : y < 2100) : (nI y - nI y / 400 * 400 = 0) ↔ y % 400 = 0 := by
  have h1 := mlp_k (k := 400) h (by omega) (by omega)
  rw [show iZ 400 = 400 by decide +kernel] at h1
  exact h1.trans (by omega)
theorem mlp100 {y : Nat} (h : y < 2100) : (nI y - nI y / 100 * 100 = 0) ↔ y % 100 = 0 := by
  have h1 := mlp_k (k := 100) h (by omega) (by omega)
  rw [show iZ 100 = 100 by decide +kernel] at h1
  exact h1.trans (by omega)
theorem mlp4 {y : Nat} (h : y < 2100) : (nI y - nI y / 4 * 4 = 0) ↔ y % 4 = 0 := by
  have h1 := mlp_k (k := 4) h (by omega) (by omega)
  rw [show iZ 4 = 4 by decide +kernel] at h1
  exact h1.trans (by omega)
theorem FO_s {y : Nat} (h : y < 2100) : FO (y + 1) = FO y + (yl y : Int) := by
  have e : leapb y = true ↔ (y % 400 = 0 ∨ (y % 4 = 0 ∧ ¬ y % 100 = 0)) := by
    simp only [leapb, Bool.or_eq_true, Bool.and_eq_true, beq_iff_eq, Bool.not_eq_true', beq_eq_false_iff_ne, ne_eq]
  unfold FO yl
  by_cases q : leapb y = true
  · rw [if_pos q]
    have := e.mp q
    omega
  · rw [if_neg q]
    have : ¬ (y % 400 = 0 ∨ (y % 4 = 0 ∧ ¬ y % 100 = 0)) := fun w => q (e.mpr w)
    omega
theorem FO_b {y : Nat} (h : y < 2100) : -800000 ≤ FO y ∧ FO y ≤ 800000 := by
  unfold FO
  omega
theorem FO_1970 : FO 1970 = 0 := by decide +kernel
theorem FO_1910 : FO 1910 = -21915 := by decide +kernel
theorem FO_2031 : FO 2031 = 22280 := by decide +kernel
theorem yl_b (y : Nat) : yl y = 365 ∨ yl y = 366 := by unfold yl; split <;> simp
theorem FO_m {y : Nat} : ∀ {z : Nat}, y ≤ z → z < 2100 → FO y ≤ FO z := by
  intro z
  induction z with
  | zero => intro h _; have : y = 0 := by omega
            subst this; exact Int.le_refl _
  | succ z ih =>
    intro h hz
    rcases Nat.lt_or_ge z y with q | q
    · have : y = z + 1 := by omega
      subst this; exact Int.le_refl _
    · have h1 := ih q (by omega)
      have h2 := FO_s (y := z) (by omega)
      omega
theorem dm_b (y m : Nat) : 28 ≤ dm y m ∧ dm y m ≤ 31 := by
  unfold dm
  split
  · split <;> omega
  · split <;> omega
theorem DB_1 (y : Nat) : DB y 1 = 0 := by simp [DB]
theorem DB_s {y m : Nat} (h : 1 ≤ m) : DB y (m + 1) = DB y m + (dm y m : Int) := by
  rw [DB, if_neg (by omega)]
theorem DB_13 (y : Nat) : DB y 13 = (yl y : Int) := by
  cases h : leapb y <;> simp [DB, dm, yl, h]
theorem DB_12 (y : Nat) : DB y 12 + 31 = (yl y : Int) := by
  cases h : leapb y <;> simp [DB, dm, yl, h]
theorem dm_12 (y : Nat) : dm y 12 = 31 := by simp [dm]
theorem DB_b {y m : Nat} (h : m ≤ 13) : 0 ≤ DB y m ∧ DB y m ≤ 366 := by
  rcases (show m = 0 ∨ m = 1 ∨ m = 2 ∨ m = 3 ∨ m = 4 ∨ m = 5 ∨ m = 6 ∨ m = 7 ∨ m = 8 ∨ m = 9 ∨ m = 10 ∨ m = 11 ∨ m = 12 ∨ m = 13 by omega) with rfl | rfl | rfl | rfl | rfl | rfl | rfl | rfl | rfl | rfl | rfl | rfl | rfl | rfl <;> cases hL : leapb y <;> simp [DB, dm, hL]
/-- a month's last day lies ahead of the next year -/
theorem DB_t {y m : Nat} (h1 : 1 ≤ m) (h2 : m ≤ 12) : DB y m + (dm y m : Int) ≤ (yl y : Int) := by
  rcases (show m = 1 ∨ m = 2 ∨ m = 3 ∨ m = 4 ∨ m = 5 ∨ m = 6 ∨ m = 7 ∨ m = 8 ∨ m = 9 ∨ m = 10 ∨ m = 11 ∨ m = 12 by omega) with rfl | rfl | rfl | rfl | rfl | rfl | rfl | rfl | rfl | rfl | rfl | rfl <;> cases hL : leapb y <;> simp [DB, dm, yl, hL]
theorem me2 {m : Nat} (h : m < 14) : (nI m = 2) ↔ m = 2 := nI_eq (a := m) (b := 2) (by omega) (by omega)
theorem me4 {m : Nat} (h : m < 14) : (nI m = 4) ↔ m = 4 := nI_eq (a := m) (b := 4) (by omega) (by omega)
theorem me6 {m : Nat} (h : m < 14) : (nI m = 6) ↔ m = 6 := nI_eq (a := m) (b := 6) (by omega) (by omega)
theorem me9 {m : Nat} (h : m < 14) : (nI m = 9) ↔ m = 9 := nI_eq (a := m) (b := 9) (by omega) (by omega)
theorem me11 {m : Nat} (h : m < 14) : (nI m = 11) ↔ m = 11 := nI_eq (a := m) (b := 11) (by omega) (by omega)

theorem dX4_isIn_w0 : (cX4_isIn.data.toList.drop 0).take 64 = [30, 32, 148, 155, 0, 14, 30, 22, 4, 148, 157, 0, 7, 4, 167, 0, 4, 3, 172] := by decide +kernel
theorem dX4_isIn_0 : decode cX4_isIn 0 = .ok (.lload_n 0, 1) := dk_30 (dq_lk dX4_isIn_w0 (r := 0) (x := 30) rfl)
theorem dX4_isIn_1 : decode cX4_isIn 1 = .ok (.lload_n 2, 1) := dk_32 (dq_lk dX4_isIn_w0 (r := 1) (x := 32) rfl)
theorem dX4_isIn_2 : decode cX4_isIn 2 = .ok (.lcmp, 1) := dk_148 (dq_lk dX4_isIn_w0 (r := 2) (x := 148) rfl)
theorem dX4_isIn_3 : decode cX4_isIn 3 = .ok (.ifCond .lt 14, 3) := dk_155 (dq_lk dX4_isIn_w0 (r := 3) (x := 155) rfl) (dq_lk dX4_isIn_w0 (r := 4) (x := 0) rfl) (dq_lk dX4_isIn_w0 (r := 5) (x := 14) rfl) (by decide +kernel)
theorem dX4_isIn_6 : decode cX4_isIn 6 = .ok (.lload_n 0, 1) := dk_30 (dq_lk dX4_isIn_w0 (r := 6) (x := 30) rfl)
theorem dX4_isIn_7 : decode cX4_isIn 7 = .ok (.lload 4, 2) := dk_22 (dq_lk dX4_isIn_w0 (r := 7) (x := 22) rfl) (dq_lk dX4_isIn_w0 (r := 8) (x := 4) rfl)
theorem dX4_isIn_9 : decode cX4_isIn 9 = .ok (.lcmp, 1) := dk_148 (dq_lk dX4_isIn_w0 (r := 9) (x := 148) rfl)
theorem dX4_isIn_10 : decode cX4_isIn 10 = .ok (.ifCond .gt 7, 3) := dk_157 (dq_lk dX4_isIn_w0 (r := 10) (x := 157) rfl) (dq_lk dX4_isIn_w0 (r := 11) (x := 0) rfl) (dq_lk dX4_isIn_w0 (r := 12) (x := 7) rfl) (by decide +kernel)
theorem dX4_isIn_13 : decode cX4_isIn 13 = .ok (.iconst 1, 1) := dk_4 (dq_lk dX4_isIn_w0 (r := 13) (x := 4) rfl)
theorem dX4_isIn_14 : decode cX4_isIn 14 = .ok (.goto 4, 3) := dk_167 (dq_lk dX4_isIn_w0 (r := 14) (x := 167) rfl) (dq_lk dX4_isIn_w0 (r := 15) (x := 0) rfl) (dq_lk dX4_isIn_w0 (r := 16) (x := 4) rfl) (by decide +kernel)
theorem dX4_isIn_17 : decode cX4_isIn 17 = .ok (.iconst 0, 1) := dk_3 (dq_lk dX4_isIn_w0 (r := 17) (x := 3) rfl)
theorem dX4_isIn_18 : decode cX4_isIn 18 = .ok (.ireturn, 1) := dk_172 (dq_lk dX4_isIn_w0 (r := 18) (x := 172) rfl)
theorem c_X4_isIn (tys : List (ClassId × FieldType)) (ws : va_W) (p0 p1 p2 : Int64) : mCt tys yX4_isIn cX4_isIn 6 (some .boolean) ⟨0, 0, 0, 0⟩ [.long p0, .long p1, .long p2] ws (fun v ws' => v = some (.int (f_isWithin p0 p1 p2)) ∧ ws' = ws) mNo := by
  refine mCt.of (by decide +kernel) (Nat.le_of_ble_eq_true rfl) (fun X hX hE => ?_)
  have hX : mOK X RX4 cX4_isIn 6 ⟨0, 0, 0, 0⟩ [] tys := hX
  refine r_lload_n hX dX4_isIn_0 rfl rfl ?_
  refine r_lload_n hX dX4_isIn_1 rfl rfl ?_
  refine r_lcmp hX dX4_isIn_2 ?_
  refine r_if_lt (tgt := 17) hX dX4_isIn_3 (by decide) (fun c1 => ?_) (fun c1 => ?_)
  · refine r_iconst (v := 0) hX dX4_isIn_17 (by decide) ?_
    refine r_zret hX hE dX4_isIn_18 (by decide) (Nat.le_of_ble_eq_true rfl) (Nat.le_of_ble_eq_true rfl) ⟨?_, rfl⟩
    have h1 : ¬ p1 ≤ p0 := Int64.not_le.mpr (lg_lt.mp c1)
    simp [f_isWithin, h1]
  · have h1 : p1 ≤ p0 := Int64.not_lt.mp (fun h => c1 (lg_lt.mpr h))
    refine r_lload_n hX dX4_isIn_6 rfl rfl ?_
    refine r_lload hX dX4_isIn_7 rfl ?_
    refine r_lcmp hX dX4_isIn_9 ?_
    refine r_if_gt (tgt := 17) hX dX4_isIn_10 (by decide) (fun c2 => ?_) (fun c2 => ?_)
    · refine r_iconst (v := 0) hX dX4_isIn_17 (by decide) ?_
      refine r_zret hX hE dX4_isIn_18 (by decide) (Nat.le_of_ble_eq_true rfl) (Nat.le_of_ble_eq_true rfl) ⟨?_, rfl⟩
      have h2 : ¬ p0 ≤ p2 := Int64.not_le.mpr (lg_gt.mp c2)
      simp [f_isWithin, h2]
    · have h2 : p0 ≤ p2 := Int64.not_lt.mp (fun h => c2 (lg_gt.mpr h))
      refine r_iconst (v := 1) hX dX4_isIn_13 (by decide) ?_
      refine r_goto (tgt := 18) hX dX4_isIn_14 (by decide) ?_
      refine r_zret hX hE dX4_isIn_18 (by decide) (Nat.le_of_ble_eq_true rfl) (Nat.le_of_ble_eq_true rfl) ⟨?_, rfl⟩
      simp [f_isWithin, h1, h2]
theorem dX4_one_w0 : (cX4_one.data.toList.drop 0).take 64 = [26, 153, 0, 7, 4, 167, 0, 4, 3, 172] := by decide +kernel
theorem dX4_one_0 : decode cX4_one 0 = .ok (.iload_n 0, 1) := dk_26 (dq_lk dX4_one_w0 (r := 0) (x := 26) rfl)
theorem dX4_one_1 : decode cX4_one 1 = .ok (.ifCond .eq 7, 3) := dk_153 (dq_lk dX4_one_w0 (r := 1) (x := 153) rfl) (dq_lk dX4_one_w0 (r := 2) (x := 0) rfl) (dq_lk dX4_one_w0 (r := 3) (x := 7) rfl) (by decide +kernel)
theorem dX4_one_4 : decode cX4_one 4 = .ok (.iconst 1, 1) := dk_4 (dq_lk dX4_one_w0 (r := 4) (x := 4) rfl)
theorem dX4_one_5 : decode cX4_one 5 = .ok (.goto 4, 3) := dk_167 (dq_lk dX4_one_w0 (r := 5) (x := 167) rfl) (dq_lk dX4_one_w0 (r := 6) (x := 0) rfl) (dq_lk dX4_one_w0 (r := 7) (x := 4) rfl) (by decide +kernel)
theorem dX4_one_8 : decode cX4_one 8 = .ok (.iconst 0, 1) := dk_3 (dq_lk dX4_one_w0 (r := 8) (x := 3) rfl)
theorem dX4_one_9 : decode cX4_one 9 = .ok (.ireturn, 1) := dk_172 (dq_lk dX4_one_w0 (r := 9) (x := 172) rfl)
theorem dX4_isLeap_w0 : (cX4_isLeap.data.toList.drop 0).take 64 = [26, 17, 1, 144, 112, 153, 0, 16, 26, 7, 112, 154, 0, 14, 26, 16, 100, 112, 153, 0, 7, 4, 167, 0, 4, 3, 172] := by decide +kernel
theorem dX4_isLeap_0 : decode cX4_isLeap 0 = .ok (.iload_n 0, 1) := dk_26 (dq_lk dX4_isLeap_w0 (r := 0) (x := 26) rfl)
theorem dX4_isLeap_1 : decode cX4_isLeap 1 = .ok (.sipush 400, 3) := dk_17 (dq_lk dX4_isLeap_w0 (r := 1) (x := 17) rfl) (dq_lk dX4_isLeap_w0 (r := 2) (x := 1) rfl) (dq_lk dX4_isLeap_w0 (r := 3) (x := 144) rfl) (by decide +kernel)
theorem dX4_isLeap_4 : decode cX4_isLeap 4 = .ok (.irem, 1) := dk_112 (dq_lk dX4_isLeap_w0 (r := 4) (x := 112) rfl)
theorem dX4_isLeap_5 : decode cX4_isLeap 5 = .ok (.ifCond .eq 16, 3) := dk_153 (dq_lk dX4_isLeap_w0 (r := 5) (x := 153) rfl) (dq_lk dX4_isLeap_w0 (r := 6) (x := 0) rfl) (dq_lk dX4_isLeap_w0 (r := 7) (x := 16) rfl) (by decide +kernel)
theorem dX4_isLeap_8 : decode cX4_isLeap 8 = .ok (.iload_n 0, 1) := dk_26 (dq_lk dX4_isLeap_w0 (r := 8) (x := 26) rfl)
theorem dX4_isLeap_9 : decode cX4_isLeap 9 = .ok (.iconst 4, 1) := dk_7 (dq_lk dX4_isLeap_w0 (r := 9) (x := 7) rfl)
theorem dX4_isLeap_10 : decode cX4_isLeap 10 = .ok (.irem, 1) := dk_112 (dq_lk dX4_isLeap_w0 (r := 10) (x := 112) rfl)
theorem dX4_isLeap_11 : decode cX4_isLeap 11 = .ok (.ifCond .ne 14, 3) := dk_154 (dq_lk dX4_isLeap_w0 (r := 11) (x := 154) rfl) (dq_lk dX4_isLeap_w0 (r := 12) (x := 0) rfl) (dq_lk dX4_isLeap_w0 (r := 13) (x := 14) rfl) (by decide +kernel)
theorem dX4_isLeap_14 : decode cX4_isLeap 14 = .ok (.iload_n 0, 1) := dk_26 (dq_lk dX4_isLeap_w0 (r := 14) (x := 26) rfl)
theorem dX4_isLeap_15 : decode cX4_isLeap 15 = .ok (.bipush 100, 2) := dk_16 (dq_lk dX4_isLeap_w0 (r := 15) (x := 16) rfl) (dq_lk dX4_isLeap_w0 (r := 16) (x := 100) rfl) (by decide +kernel)
theorem dX4_isLeap_17 : decode cX4_isLeap 17 = .ok (.irem, 1) := dk_112 (dq_lk dX4_isLeap_w0 (r := 17) (x := 112) rfl)
theorem dX4_isLeap_18 : decode cX4_isLeap 18 = .ok (.ifCond .eq 7, 3) := dk_153 (dq_lk dX4_isLeap_w0 (r := 18) (x := 153) rfl) (dq_lk dX4_isLeap_w0 (r := 19) (x := 0) rfl) (dq_lk dX4_isLeap_w0 (r := 20) (x := 7) rfl) (by decide +kernel)
theorem dX4_isLeap_21 : decode cX4_isLeap 21 = .ok (.iconst 1, 1) := dk_4 (dq_lk dX4_isLeap_w0 (r := 21) (x := 4) rfl)
theorem dX4_isLeap_22 : decode cX4_isLeap 22 = .ok (.goto 4, 3) := dk_167 (dq_lk dX4_isLeap_w0 (r := 22) (x := 167) rfl) (dq_lk dX4_isLeap_w0 (r := 23) (x := 0) rfl) (dq_lk dX4_isLeap_w0 (r := 24) (x := 4) rfl) (by decide +kernel)
theorem dX4_isLeap_25 : decode cX4_isLeap 25 = .ok (.iconst 0, 1) := dk_3 (dq_lk dX4_isLeap_w0 (r := 25) (x := 3) rfl)
theorem dX4_isLeap_26 : decode cX4_isLeap 26 = .ok (.ireturn, 1) := dk_172 (dq_lk dX4_isLeap_w0 (r := 26) (x := 172) rfl)
set_option maxHeartbeats 4000000 in
set_option maxRecDepth 20000 in
theorem c_X4_isLeap (tys : List (ClassId × FieldType)) (ws : va_W) (y : Nat) (hy : y < 2100) : mCt tys yX4_isLeap cX4_isLeap 1 (some .boolean) ⟨0, 0, 0, 0⟩ [.int (nI y)] ws (fun v ws' => v = some (.int (if leapb y = true then 1 else 0)) ∧ ws' = ws) mNo := by
  refine mCt.of (by decide +kernel) (Nat.le_of_ble_eq_true rfl) (fun X hX hE => ?_)
  have hX : mOK X RX4 cX4_isLeap 1 ⟨0, 0, 0, 0⟩ [] tys := hX
  refine r_iload_n hX dX4_isLeap_0 rfl rfl ?_
  refine r_sipush (v := 400) hX dX4_isLeap_1 (by decide) ?_
  refine r_irem hX dX4_isLeap_4 (by first | decide | assumption) ?_
  refine r_if_eq (tgt := 21) hX dX4_isLeap_5 (by decide) (fun c1 => ?_) (fun c1 => ?_)
  · refine r_iconst (v := 1) hX dX4_isLeap_21 (by decide) ?_
    refine r_goto (tgt := 26) hX dX4_isLeap_22 (by decide) ?_
    refine r_zret hX hE dX4_isLeap_26 (by decide) (Nat.le_of_ble_eq_true rfl) (Nat.le_of_ble_eq_true rfl) ⟨?_, rfl⟩
    simp only [mlp400 hy, mlp4 hy, mlp100 hy] at c1
    simp [leapb, c1]
  · refine r_iload_n hX dX4_isLeap_8 rfl rfl ?_
    refine r_iconst (v := 4) hX dX4_isLeap_9 (by decide) ?_
    refine r_irem hX dX4_isLeap_10 (by first | decide | assumption) ?_
    refine r_if_ne (tgt := 25) hX dX4_isLeap_11 (by decide) (fun c2 => ?_) (fun c2 => ?_)
    · refine r_iconst (v := 0) hX dX4_isLeap_25 (by decide) ?_
      refine r_zret hX hE dX4_isLeap_26 (by decide) (Nat.le_of_ble_eq_true rfl) (Nat.le_of_ble_eq_true rfl) ⟨?_, rfl⟩
      simp only [mlp400 hy, mlp4 hy, mlp100 hy] at c1
      simp only [mlp400 hy, mlp4 hy, mlp100 hy] at c2
      simp [leapb, c1, c2]
    · refine r_iload_n hX dX4_isLeap_14 rfl rfl ?_
      refine r_bipush (v := 100) hX dX4_isLeap_15 (by decide) ?_
      refine r_irem hX dX4_isLeap_17 (by first | decide | assumption) ?_
      refine r_if_eq (tgt := 25) hX dX4_isLeap_18 (by decide) (fun c3 => ?_) (fun c3 => ?_)
      · refine r_iconst (v := 0) hX dX4_isLeap_25 (by decide) ?_
        refine r_zret hX hE dX4_isLeap_26 (by decide) (Nat.le_of_ble_eq_true rfl) (Nat.le_of_ble_eq_true rfl) ⟨?_, rfl⟩
        simp only [mlp400 hy, mlp4 hy, mlp100 hy] at c1
        simp only [mlp400 hy, mlp4 hy, mlp100 hy] at c2
        simp only [mlp400 hy, mlp4 hy, mlp100 hy] at c3
        simp [leapb, c1, c2, c3]
      · refine r_iconst (v := 1) hX dX4_isLeap_21 (by decide) ?_
        refine r_goto (tgt := 26) hX dX4_isLeap_22 (by decide) ?_
        refine r_zret hX hE dX4_isLeap_26 (by decide) (Nat.le_of_ble_eq_true rfl) (Nat.le_of_ble_eq_true rfl) ⟨?_, rfl⟩
        simp only [mlp400 hy, mlp4 hy, mlp100 hy] at c1
        simp only [mlp400 hy, mlp4 hy, mlp100 hy] at c2
        simp only [mlp400 hy, mlp4 hy, mlp100 hy] at c3
        simp [leapb, c1, c2, c3]
theorem dX4_daysOf__w0 : (cX4_daysOf_.data.toList.drop 0).take 64 = [26, 184, 0, 44, 153, 0, 9, 17, 1, 110, 167, 0, 6, 17, 1, 109, 172] := by decide +kernel
theorem dX4_daysOf__0 : decode cX4_daysOf_ 0 = .ok (.iload_n 0, 1) := dk_26 (dq_lk dX4_daysOf__w0 (r := 0) (x := 26) rfl)
theorem dX4_daysOf__1 : decode cX4_daysOf_ 1 = .ok (.invokestatic 44, 3) := dk_184 (dq_lk dX4_daysOf__w0 (r := 1) (x := 184) rfl) (dq_lk dX4_daysOf__w0 (r := 2) (x := 0) rfl) (dq_lk dX4_daysOf__w0 (r := 3) (x := 44) rfl)
theorem dX4_daysOf__4 : decode cX4_daysOf_ 4 = .ok (.ifCond .eq 9, 3) := dk_153 (dq_lk dX4_daysOf__w0 (r := 4) (x := 153) rfl) (dq_lk dX4_daysOf__w0 (r := 5) (x := 0) rfl) (dq_lk dX4_daysOf__w0 (r := 6) (x := 9) rfl) (by decide +kernel)
theorem dX4_daysOf__7 : decode cX4_daysOf_ 7 = .ok (.sipush 366, 3) := dk_17 (dq_lk dX4_daysOf__w0 (r := 7) (x := 17) rfl) (dq_lk dX4_daysOf__w0 (r := 8) (x := 1) rfl) (dq_lk dX4_daysOf__w0 (r := 9) (x := 110) rfl) (by decide +kernel)
theorem dX4_daysOf__10 : decode cX4_daysOf_ 10 = .ok (.goto 6, 3) := dk_167 (dq_lk dX4_daysOf__w0 (r := 10) (x := 167) rfl) (dq_lk dX4_daysOf__w0 (r := 11) (x := 0) rfl) (dq_lk dX4_daysOf__w0 (r := 12) (x := 6) rfl) (by decide +kernel)
theorem dX4_daysOf__13 : decode cX4_daysOf_ 13 = .ok (.sipush 365, 3) := dk_17 (dq_lk dX4_daysOf__w0 (r := 13) (x := 17) rfl) (dq_lk dX4_daysOf__w0 (r := 14) (x := 1) rfl) (dq_lk dX4_daysOf__w0 (r := 15) (x := 109) rfl) (by decide +kernel)
theorem dX4_daysOf__16 : decode cX4_daysOf_ 16 = .ok (.ireturn, 1) := dk_172 (dq_lk dX4_daysOf__w0 (r := 16) (x := 172) rfl)
set_option maxHeartbeats 4000000 in
set_option maxRecDepth 20000 in
theorem c_X4_daysOf_ (tys : List (ClassId × FieldType)) (ws : va_W) (y : Nat) (hy : y < 2100) : mCt tys yX4_daysOf_ cX4_daysOf_ 1 (some .int) ⟨1, 0, 0, 20⟩ [.int (nI y)] ws (fun v ws' => v = some (.int (nI (yl y))) ∧ ws' = ws) mNo := by
  refine mCt.of (by decide +kernel) (Nat.le_of_ble_eq_true rfl) (fun X hX hE => ?_)
  have hX : mOK X RX4 cX4_daysOf_ 1 ⟨1, 0, 0, 20⟩ [] tys := hX
  refine r_iload_n hX dX4_daysOf__0 rfl rfl ?_
  refine r_callS hX (c_X4_isLeap _ _ y hy) ks_X4_44 rfl rfl (Nat.le_of_ble_eq_true rfl) ⟨(Nat.le_of_ble_eq_true rfl), (Nat.le_of_ble_eq_true rfl)⟩ ⟨(Nat.le_of_ble_eq_true rfl), (Nat.le_of_ble_eq_true rfl)⟩ dX4_daysOf__1 (fun _ _ z => False.elim z) (fun v9 ws9 h1 => ?_)
  obtain ⟨rfl, hw9⟩ := h1
  subst ws9
  dsimp only [mPush]
  refine r_if_eq (tgt := 13) hX dX4_daysOf__4 (by decide) (fun c3 => ?_) (fun c3 => ?_)
  · refine r_sipush (v := 365) hX dX4_daysOf__13 (by decide) ?_
    refine r_iret hX hE dX4_daysOf__16 (Nat.le_of_ble_eq_true rfl) (Nat.le_of_ble_eq_true rfl) ⟨?_, rfl⟩
    cases hL : leapb y <;> simp [hL] at c3 <;> simp [yl, hL, ] <;> first | done | decide
  · refine r_sipush (v := 366) hX dX4_daysOf__7 (by decide) ?_
    refine r_goto (tgt := 16) hX dX4_daysOf__10 (by decide) ?_
    refine r_iret hX hE dX4_daysOf__16 (Nat.le_of_ble_eq_true rfl) (Nat.le_of_ble_eq_true rfl) ⟨?_, rfl⟩
    cases hL : leapb y <;> simp [hL] at c3 <;> simp [yl, hL, ] <;> first | done | decide
theorem dX4_daysOf_w0 : (cX4_daysOf.data.toList.drop 0).take 64 = [27, 5, 160, 0, 18, 26, 184, 0, 44, 153, 0, 8, 16, 29, 167, 0, 5, 16, 28, 172, 27, 7, 159, 0, 21, 27, 16, 6, 159, 0, 15, 27, 16, 9, 159, 0, 9, 27, 16, 11, 160, 0, 8, 16, 30, 167, 0, 5, 16, 31, 172] := by decide +kernel
theorem dX4_daysOf_0 : decode cX4_daysOf 0 = .ok (.iload_n 1, 1) := dk_27 (dq_lk dX4_daysOf_w0 (r := 0) (x := 27) rfl)
theorem dX4_daysOf_1 : decode cX4_daysOf 1 = .ok (.iconst 2, 1) := dk_5 (dq_lk dX4_daysOf_w0 (r := 1) (x := 5) rfl)
theorem dX4_daysOf_2 : decode cX4_daysOf 2 = .ok (.if_icmp .ne 18, 3) := dk_160 (dq_lk dX4_daysOf_w0 (r := 2) (x := 160) rfl) (dq_lk dX4_daysOf_w0 (r := 3) (x := 0) rfl) (dq_lk dX4_daysOf_w0 (r := 4) (x := 18) rfl) (by decide +kernel)
theorem dX4_daysOf_5 : decode cX4_daysOf 5 = .ok (.iload_n 0, 1) := dk_26 (dq_lk dX4_daysOf_w0 (r := 5) (x := 26) rfl)
theorem dX4_daysOf_6 : decode cX4_daysOf 6 = .ok (.invokestatic 44, 3) := dk_184 (dq_lk dX4_daysOf_w0 (r := 6) (x := 184) rfl) (dq_lk dX4_daysOf_w0 (r := 7) (x := 0) rfl) (dq_lk dX4_daysOf_w0 (r := 8) (x := 44) rfl)
theorem dX4_daysOf_9 : decode cX4_daysOf 9 = .ok (.ifCond .eq 8, 3) := dk_153 (dq_lk dX4_daysOf_w0 (r := 9) (x := 153) rfl) (dq_lk dX4_daysOf_w0 (r := 10) (x := 0) rfl) (dq_lk dX4_daysOf_w0 (r := 11) (x := 8) rfl) (by decide +kernel)
theorem dX4_daysOf_12 : decode cX4_daysOf 12 = .ok (.bipush 29, 2) := dk_16 (dq_lk dX4_daysOf_w0 (r := 12) (x := 16) rfl) (dq_lk dX4_daysOf_w0 (r := 13) (x := 29) rfl) (by decide +kernel)
theorem dX4_daysOf_14 : decode cX4_daysOf 14 = .ok (.goto 5, 3) := dk_167 (dq_lk dX4_daysOf_w0 (r := 14) (x := 167) rfl) (dq_lk dX4_daysOf_w0 (r := 15) (x := 0) rfl) (dq_lk dX4_daysOf_w0 (r := 16) (x := 5) rfl) (by decide +kernel)
theorem dX4_daysOf_17 : decode cX4_daysOf 17 = .ok (.bipush 28, 2) := dk_16 (dq_lk dX4_daysOf_w0 (r := 17) (x := 16) rfl) (dq_lk dX4_daysOf_w0 (r := 18) (x := 28) rfl) (by decide +kernel)
theorem dX4_daysOf_19 : decode cX4_daysOf 19 = .ok (.ireturn, 1) := dk_172 (dq_lk dX4_daysOf_w0 (r := 19) (x := 172) rfl)
theorem dX4_daysOf_20 : decode cX4_daysOf 20 = .ok (.iload_n 1, 1) := dk_27 (dq_lk dX4_daysOf_w0 (r := 20) (x := 27) rfl)
theorem dX4_daysOf_21 : decode cX4_daysOf 21 = .ok (.iconst 4, 1) := dk_7 (dq_lk dX4_daysOf_w0 (r := 21) (x := 7) rfl)
theorem dX4_daysOf_22 : decode cX4_daysOf 22 = .ok (.if_icmp .eq 21, 3) := dk_159 (dq_lk dX4_daysOf_w0 (r := 22) (x := 159) rfl) (dq_lk dX4_daysOf_w0 (r := 23) (x := 0) rfl) (dq_lk dX4_daysOf_w0 (r := 24) (x := 21) rfl) (by decide +kernel)
theorem dX4_daysOf_25 : decode cX4_daysOf 25 = .ok (.iload_n 1, 1) := dk_27 (dq_lk dX4_daysOf_w0 (r := 25) (x := 27) rfl)
theorem dX4_daysOf_26 : decode cX4_daysOf 26 = .ok (.bipush 6, 2) := dk_16 (dq_lk dX4_daysOf_w0 (r := 26) (x := 16) rfl) (dq_lk dX4_daysOf_w0 (r := 27) (x := 6) rfl) (by decide +kernel)
theorem dX4_daysOf_28 : decode cX4_daysOf 28 = .ok (.if_icmp .eq 15, 3) := dk_159 (dq_lk dX4_daysOf_w0 (r := 28) (x := 159) rfl) (dq_lk dX4_daysOf_w0 (r := 29) (x := 0) rfl) (dq_lk dX4_daysOf_w0 (r := 30) (x := 15) rfl) (by decide +kernel)
theorem dX4_daysOf_31 : decode cX4_daysOf 31 = .ok (.iload_n 1, 1) := dk_27 (dq_lk dX4_daysOf_w0 (r := 31) (x := 27) rfl)
theorem dX4_daysOf_32 : decode cX4_daysOf 32 = .ok (.bipush 9, 2) := dk_16 (dq_lk dX4_daysOf_w0 (r := 32) (x := 16) rfl) (dq_lk dX4_daysOf_w0 (r := 33) (x := 9) rfl) (by decide +kernel)
theorem dX4_daysOf_34 : decode cX4_daysOf 34 = .ok (.if_icmp .eq 9, 3) := dk_159 (dq_lk dX4_daysOf_w0 (r := 34) (x := 159) rfl) (dq_lk dX4_daysOf_w0 (r := 35) (x := 0) rfl) (dq_lk dX4_daysOf_w0 (r := 36) (x := 9) rfl) (by decide +kernel)
theorem dX4_daysOf_37 : decode cX4_daysOf 37 = .ok (.iload_n 1, 1) := dk_27 (dq_lk dX4_daysOf_w0 (r := 37) (x := 27) rfl)
theorem dX4_daysOf_38 : decode cX4_daysOf 38 = .ok (.bipush 11, 2) := dk_16 (dq_lk dX4_daysOf_w0 (r := 38) (x := 16) rfl) (dq_lk dX4_daysOf_w0 (r := 39) (x := 11) rfl) (by decide +kernel)
theorem dX4_daysOf_40 : decode cX4_daysOf 40 = .ok (.if_icmp .ne 8, 3) := dk_160 (dq_lk dX4_daysOf_w0 (r := 40) (x := 160) rfl) (dq_lk dX4_daysOf_w0 (r := 41) (x := 0) rfl) (dq_lk dX4_daysOf_w0 (r := 42) (x := 8) rfl) (by decide +kernel)
theorem dX4_daysOf_43 : decode cX4_daysOf 43 = .ok (.bipush 30, 2) := dk_16 (dq_lk dX4_daysOf_w0 (r := 43) (x := 16) rfl) (dq_lk dX4_daysOf_w0 (r := 44) (x := 30) rfl) (by decide +kernel)
theorem dX4_daysOf_45 : decode cX4_daysOf 45 = .ok (.goto 5, 3) := dk_167 (dq_lk dX4_daysOf_w0 (r := 45) (x := 167) rfl) (dq_lk dX4_daysOf_w0 (r := 46) (x := 0) rfl) (dq_lk dX4_daysOf_w0 (r := 47) (x := 5) rfl) (by decide +kernel)
theorem dX4_daysOf_48 : decode cX4_daysOf 48 = .ok (.bipush 31, 2) := dk_16 (dq_lk dX4_daysOf_w0 (r := 48) (x := 16) rfl) (dq_lk dX4_daysOf_w0 (r := 49) (x := 31) rfl) (by decide +kernel)
theorem dX4_daysOf_50 : decode cX4_daysOf 50 = .ok (.ireturn, 1) := dk_172 (dq_lk dX4_daysOf_w0 (r := 50) (x := 172) rfl)
set_option maxHeartbeats 4000000 in
set_option maxRecDepth 20000 in
theorem c_X4_daysOf (tys : List (ClassId × FieldType)) (ws : va_W) (y : Nat) (hy : y < 2100) (m : Nat) (hm : m < 14) : mCt tys yX4_daysOf cX4_daysOf 2 (some .int) ⟨1, 0, 0, 20⟩ [.int (nI y), .int (nI m)] ws (fun v ws' => v = some (.int (nI (dm y m))) ∧ ws' = ws) mNo := by
  refine mCt.of (by decide +kernel) (Nat.le_of_ble_eq_true rfl) (fun X hX hE => ?_)
  have hX : mOK X RX4 cX4_daysOf 2 ⟨1, 0, 0, 20⟩ [] tys := hX
  refine r_iload_n hX dX4_daysOf_0 rfl rfl ?_
  refine r_iconst (v := 2) hX dX4_daysOf_1 (by decide) ?_
  refine r_icmp_ne (tgt := 20) hX dX4_daysOf_2 (by decide) (fun c1 => ?_) (fun c1 => ?_)
  · refine r_iload_n hX dX4_daysOf_20 rfl rfl ?_
    refine r_iconst (v := 4) hX dX4_daysOf_21 (by decide) ?_
    refine r_icmp_eq (tgt := 43) hX dX4_daysOf_22 (by decide) (fun c2 => ?_) (fun c2 => ?_)
    · refine r_bipush (v := 30) hX dX4_daysOf_43 (by decide) ?_
      refine r_goto (tgt := 50) hX dX4_daysOf_45 (by decide) ?_
      refine r_iret hX hE dX4_daysOf_50 (Nat.le_of_ble_eq_true rfl) (Nat.le_of_ble_eq_true rfl) ⟨?_, rfl⟩
      clear hX hE
      try simp only [me2 hm, me4 hm, me6 hm, me9 hm, me11 hm] at c1
      try simp only [me2 hm, me4 hm, me6 hm, me9 hm, me11 hm] at c2
      cases hL : leapb y <;> simp_all [dm] <;> first | done | decide
    · refine r_iload_n hX dX4_daysOf_25 rfl rfl ?_
      refine r_bipush (v := 6) hX dX4_daysOf_26 (by decide) ?_
      refine r_icmp_eq (tgt := 43) hX dX4_daysOf_28 (by decide) (fun c3 => ?_) (fun c3 => ?_)
      · refine r_bipush (v := 30) hX dX4_daysOf_43 (by decide) ?_
        refine r_goto (tgt := 50) hX dX4_daysOf_45 (by decide) ?_
        refine r_iret hX hE dX4_daysOf_50 (Nat.le_of_ble_eq_true rfl) (Nat.le_of_ble_eq_true rfl) ⟨?_, rfl⟩
        clear hX hE
        try simp only [me2 hm, me4 hm, me6 hm, me9 hm, me11 hm] at c1
        try simp only [me2 hm, me4 hm, me6 hm, me9 hm, me11 hm] at c2
        try simp only [me2 hm, me4 hm, me6 hm, me9 hm, me11 hm] at c3
        cases hL : leapb y <;> simp_all [dm] <;> first | done | decide
      · refine r_iload_n hX dX4_daysOf_31 rfl rfl ?_
        refine r_bipush (v := 9) hX dX4_daysOf_32 (by decide) ?_
        refine r_icmp_eq (tgt := 43) hX dX4_daysOf_34 (by decide) (fun c4 => ?_) (fun c4 => ?_)
        · refine r_bipush (v := 30) hX dX4_daysOf_43 (by decide) ?_
          refine r_goto (tgt := 50) hX dX4_daysOf_45 (by decide) ?_
          refine r_iret hX hE dX4_daysOf_50 (Nat.le_of_ble_eq_true rfl) (Nat.le_of_ble_eq_true rfl) ⟨?_, rfl⟩
          clear hX hE
          try simp only [me2 hm, me4 hm, me6 hm, me9 hm, me11 hm] at c1
          try simp only [me2 hm, me4 hm, me6 hm, me9 hm, me11 hm] at c2
          try simp only [me2 hm, me4 hm, me6 hm, me9 hm, me11 hm] at c3
          try simp only [me2 hm, me4 hm, me6 hm, me9 hm, me11 hm] at c4
          cases hL : leapb y <;> simp_all [dm] <;> first | done | decide
        · refine r_iload_n hX dX4_daysOf_37 rfl rfl ?_
          refine r_bipush (v := 11) hX dX4_daysOf_38 (by decide) ?_
          refine r_icmp_ne (tgt := 48) hX dX4_daysOf_40 (by decide) (fun c5 => ?_) (fun c5 => ?_)
          · refine r_bipush (v := 31) hX dX4_daysOf_48 (by decide) ?_
            refine r_iret hX hE dX4_daysOf_50 (Nat.le_of_ble_eq_true rfl) (Nat.le_of_ble_eq_true rfl) ⟨?_, rfl⟩
            clear hX hE
            try simp only [me2 hm, me4 hm, me6 hm, me9 hm, me11 hm] at c1
            try simp only [me2 hm, me4 hm, me6 hm, me9 hm, me11 hm] at c2
            try simp only [me2 hm, me4 hm, me6 hm, me9 hm, me11 hm] at c3
            try simp only [me2 hm, me4 hm, me6 hm, me9 hm, me11 hm] at c4
            try simp only [me2 hm, me4 hm, me6 hm, me9 hm, me11 hm] at c5
            cases hL : leapb y <;> simp_all [dm] <;> first | done | decide
          · refine r_bipush (v := 30) hX dX4_daysOf_43 (by decide) ?_
            refine r_goto (tgt := 50) hX dX4_daysOf_45 (by decide) ?_
            refine r_iret hX hE dX4_daysOf_50 (Nat.le_of_ble_eq_true rfl) (Nat.le_of_ble_eq_true rfl) ⟨?_, rfl⟩
            clear hX hE
            try simp only [me2 hm, me4 hm, me6 hm, me9 hm, me11 hm] at c1
            try simp only [me2 hm, me4 hm, me6 hm, me9 hm, me11 hm] at c2
            try simp only [me2 hm, me4 hm, me6 hm, me9 hm, me11 hm] at c3
            try simp only [me2 hm, me4 hm, me6 hm, me9 hm, me11 hm] at c4
            try simp only [me2 hm, me4 hm, me6 hm, me9 hm, me11 hm] at c5
            cases hL : leapb y <;> simp_all [dm] <;> first | done | decide
  · refine r_iload_n hX dX4_daysOf_5 rfl rfl ?_
    refine r_callS hX (c_X4_isLeap _ _ y hy) ks_X4_44 rfl rfl (Nat.le_of_ble_eq_true rfl) ⟨(Nat.le_of_ble_eq_true rfl), (Nat.le_of_ble_eq_true rfl)⟩ ⟨(Nat.le_of_ble_eq_true rfl), (Nat.le_of_ble_eq_true rfl)⟩ dX4_daysOf_6 (fun _ _ z => False.elim z) (fun v9 ws9 h6 => ?_)
    obtain ⟨rfl, hw9⟩ := h6
    subst ws9
    dsimp only [mPush]
    refine r_if_eq (tgt := 17) hX dX4_daysOf_9 (by decide) (fun c8 => ?_) (fun c8 => ?_)
    · refine r_bipush (v := 28) hX dX4_daysOf_17 (by decide) ?_
      refine r_iret hX hE dX4_daysOf_19 (Nat.le_of_ble_eq_true rfl) (Nat.le_of_ble_eq_true rfl) ⟨?_, rfl⟩
      clear hX hE
      try simp only [me2 hm, me4 hm, me6 hm, me9 hm, me11 hm] at c1
      try simp only [me2 hm, me4 hm, me6 hm, me9 hm, me11 hm] at c8
      cases hL : leapb y <;> simp_all [dm] <;> first | done | decide
    · refine r_bipush (v := 29) hX dX4_daysOf_12 (by decide) ?_
      refine r_goto (tgt := 19) hX dX4_daysOf_14 (by decide) ?_
      refine r_iret hX hE dX4_daysOf_19 (Nat.le_of_ble_eq_true rfl) (Nat.le_of_ble_eq_true rfl) ⟨?_, rfl⟩
      clear hX hE
      try simp only [me2 hm, me4 hm, me6 hm, me9 hm, me11 hm] at c1
      try simp only [me2 hm, me4 hm, me6 hm, me9 hm, me11 hm] at c8
      cases hL : leapb y <;> simp_all [dm] <;> first | done | decide
theorem dX4_firstOf_w0 : (cX4_firstOf.data.toList.drop 0).take 64 = [3, 60, 17, 7, 178, 61, 28, 26, 162, 0, 16, 27, 28, 184, 0, 48, 96, 60, 132, 2, 1, 167, 255, 241, 26, 61, 28, 17, 7, 178, 162, 0, 16, 27, 28, 184, 0, 48, 100, 60, 132, 2, 1, 167, 255, 239, 27, 172] := by decide +kernel
theorem dX4_firstOf_0 : decode cX4_firstOf 0 = .ok (.iconst 0, 1) := dk_3 (dq_lk dX4_firstOf_w0 (r := 0) (x := 3) rfl)
theorem dX4_firstOf_1 : decode cX4_firstOf 1 = .ok (.istore_n 1, 1) := dk_60 (dq_lk dX4_firstOf_w0 (r := 1) (x := 60) rfl)
theorem dX4_firstOf_2 : decode cX4_firstOf 2 = .ok (.sipush 1970, 3) := dk_17 (dq_lk dX4_firstOf_w0 (r := 2) (x := 17) rfl) (dq_lk dX4_firstOf_w0 (r := 3) (x := 7) rfl) (dq_lk dX4_firstOf_w0 (r := 4) (x := 178) rfl) (by decide +kernel)
theorem dX4_firstOf_5 : decode cX4_firstOf 5 = .ok (.istore_n 2, 1) := dk_61 (dq_lk dX4_firstOf_w0 (r := 5) (x := 61) rfl)
theorem dX4_firstOf_6 : decode cX4_firstOf 6 = .ok (.iload_n 2, 1) := dk_28 (dq_lk dX4_firstOf_w0 (r := 6) (x := 28) rfl)
theorem dX4_firstOf_7 : decode cX4_firstOf 7 = .ok (.iload_n 0, 1) := dk_26 (dq_lk dX4_firstOf_w0 (r := 7) (x := 26) rfl)
theorem dX4_firstOf_8 : decode cX4_firstOf 8 = .ok (.if_icmp .ge 16, 3) := dk_162 (dq_lk dX4_firstOf_w0 (r := 8) (x := 162) rfl) (dq_lk dX4_firstOf_w0 (r := 9) (x := 0) rfl) (dq_lk dX4_firstOf_w0 (r := 10) (x := 16) rfl) (by decide +kernel)
theorem dX4_firstOf_11 : decode cX4_firstOf 11 = .ok (.iload_n 1, 1) := dk_27 (dq_lk dX4_firstOf_w0 (r := 11) (x := 27) rfl)
theorem dX4_firstOf_12 : decode cX4_firstOf 12 = .ok (.iload_n 2, 1) := dk_28 (dq_lk dX4_firstOf_w0 (r := 12) (x := 28) rfl)
theorem dX4_firstOf_13 : decode cX4_firstOf 13 = .ok (.invokestatic 48, 3) := dk_184 (dq_lk dX4_firstOf_w0 (r := 13) (x := 184) rfl) (dq_lk dX4_firstOf_w0 (r := 14) (x := 0) rfl) (dq_lk dX4_firstOf_w0 (r := 15) (x := 48) rfl)
theorem dX4_firstOf_16 : decode cX4_firstOf 16 = .ok (.iadd, 1) := dk_96 (dq_lk dX4_firstOf_w0 (r := 16) (x := 96) rfl)
theorem dX4_firstOf_17 : decode cX4_firstOf 17 = .ok (.istore_n 1, 1) := dk_60 (dq_lk dX4_firstOf_w0 (r := 17) (x := 60) rfl)
theorem dX4_firstOf_18 : decode cX4_firstOf 18 = .ok (.iinc 2 1, 3) := dk_132 (dq_lk dX4_firstOf_w0 (r := 18) (x := 132) rfl) (dq_lk dX4_firstOf_w0 (r := 19) (x := 2) rfl) (dq_lk dX4_firstOf_w0 (r := 20) (x := 1) rfl) (by decide +kernel)
theorem dX4_firstOf_21 : decode cX4_firstOf 21 = .ok (.goto (-15), 3) := dk_167 (dq_lk dX4_firstOf_w0 (r := 21) (x := 167) rfl) (dq_lk dX4_firstOf_w0 (r := 22) (x := 255) rfl) (dq_lk dX4_firstOf_w0 (r := 23) (x := 241) rfl) (by decide +kernel)
theorem dX4_firstOf_24 : decode cX4_firstOf 24 = .ok (.iload_n 0, 1) := dk_26 (dq_lk dX4_firstOf_w0 (r := 24) (x := 26) rfl)
theorem dX4_firstOf_25 : decode cX4_firstOf 25 = .ok (.istore_n 2, 1) := dk_61 (dq_lk dX4_firstOf_w0 (r := 25) (x := 61) rfl)
theorem dX4_firstOf_26 : decode cX4_firstOf 26 = .ok (.iload_n 2, 1) := dk_28 (dq_lk dX4_firstOf_w0 (r := 26) (x := 28) rfl)
theorem dX4_firstOf_27 : decode cX4_firstOf 27 = .ok (.sipush 1970, 3) := dk_17 (dq_lk dX4_firstOf_w0 (r := 27) (x := 17) rfl) (dq_lk dX4_firstOf_w0 (r := 28) (x := 7) rfl) (dq_lk dX4_firstOf_w0 (r := 29) (x := 178) rfl) (by decide +kernel)
theorem dX4_firstOf_30 : decode cX4_firstOf 30 = .ok (.if_icmp .ge 16, 3) := dk_162 (dq_lk dX4_firstOf_w0 (r := 30) (x := 162) rfl) (dq_lk dX4_firstOf_w0 (r := 31) (x := 0) rfl) (dq_lk dX4_firstOf_w0 (r := 32) (x := 16) rfl) (by decide +kernel)
theorem dX4_firstOf_33 : decode cX4_firstOf 33 = .ok (.iload_n 1, 1) := dk_27 (dq_lk dX4_firstOf_w0 (r := 33) (x := 27) rfl)
theorem dX4_firstOf_34 : decode cX4_firstOf 34 = .ok (.iload_n 2, 1) := dk_28 (dq_lk dX4_firstOf_w0 (r := 34) (x := 28) rfl)
theorem dX4_firstOf_35 : decode cX4_firstOf 35 = .ok (.invokestatic 48, 3) := dk_184 (dq_lk dX4_firstOf_w0 (r := 35) (x := 184) rfl) (dq_lk dX4_firstOf_w0 (r := 36) (x := 0) rfl) (dq_lk dX4_firstOf_w0 (r := 37) (x := 48) rfl)
theorem dX4_firstOf_38 : decode cX4_firstOf 38 = .ok (.isub, 1) := dk_100 (dq_lk dX4_firstOf_w0 (r := 38) (x := 100) rfl)
theorem dX4_firstOf_39 : decode cX4_firstOf 39 = .ok (.istore_n 1, 1) := dk_60 (dq_lk dX4_firstOf_w0 (r := 39) (x := 60) rfl)
theorem dX4_firstOf_40 : decode cX4_firstOf 40 = .ok (.iinc 2 1, 3) := dk_132 (dq_lk dX4_firstOf_w0 (r := 40) (x := 132) rfl) (dq_lk dX4_firstOf_w0 (r := 41) (x := 2) rfl) (dq_lk dX4_firstOf_w0 (r := 42) (x := 1) rfl) (by decide +kernel)
theorem dX4_firstOf_43 : decode cX4_firstOf 43 = .ok (.goto (-17), 3) := dk_167 (dq_lk dX4_firstOf_w0 (r := 43) (x := 167) rfl) (dq_lk dX4_firstOf_w0 (r := 44) (x := 255) rfl) (dq_lk dX4_firstOf_w0 (r := 45) (x := 239) rfl) (by decide +kernel)
theorem dX4_firstOf_46 : decode cX4_firstOf 46 = .ok (.iload_n 1, 1) := dk_27 (dq_lk dX4_firstOf_w0 (r := 46) (x := 27) rfl)
theorem dX4_firstOf_47 : decode cX4_firstOf 47 = .ok (.ireturn, 1) := dk_172 (dq_lk dX4_firstOf_w0 (r := 47) (x := 172) rfl)
theorem dX4_dayOf_w0 : (cX4_dayOf.data.toList.drop 0).take 64 = [26, 184, 0, 52, 28, 96, 4, 100, 62, 4, 54, 4, 21, 4, 27, 162, 0, 18, 29, 26, 21, 4, 184, 0, 55, 96, 62, 132, 4, 1, 167, 255, 238, 29, 172] := by decide +kernel
theorem dX4_dayOf_0 : decode cX4_dayOf 0 = .ok (.iload_n 0, 1) := dk_26 (dq_lk dX4_dayOf_w0 (r := 0) (x := 26) rfl)
theorem dX4_dayOf_1 : decode cX4_dayOf 1 = .ok (.invokestatic 52, 3) := dk_184 (dq_lk dX4_dayOf_w0 (r := 1) (x := 184) rfl) (dq_lk dX4_dayOf_w0 (r := 2) (x := 0) rfl) (dq_lk dX4_dayOf_w0 (r := 3) (x := 52) rfl)
theorem dX4_dayOf_4 : decode cX4_dayOf 4 = .ok (.iload_n 2, 1) := dk_28 (dq_lk dX4_dayOf_w0 (r := 4) (x := 28) rfl)
theorem dX4_dayOf_5 : decode cX4_dayOf 5 = .ok (.iadd, 1) := dk_96 (dq_lk dX4_dayOf_w0 (r := 5) (x := 96) rfl)
theorem dX4_dayOf_6 : decode cX4_dayOf 6 = .ok (.iconst 1, 1) := dk_4 (dq_lk dX4_dayOf_w0 (r := 6) (x := 4) rfl)
theorem dX4_dayOf_7 : decode cX4_dayOf 7 = .ok (.isub, 1) := dk_100 (dq_lk dX4_dayOf_w0 (r := 7) (x := 100) rfl)
theorem dX4_dayOf_8 : decode cX4_dayOf 8 = .ok (.istore_n 3, 1) := dk_62 (dq_lk dX4_dayOf_w0 (r := 8) (x := 62) rfl)
theorem dX4_dayOf_9 : decode cX4_dayOf 9 = .ok (.iconst 1, 1) := dk_4 (dq_lk dX4_dayOf_w0 (r := 9) (x := 4) rfl)
theorem dX4_dayOf_10 : decode cX4_dayOf 10 = .ok (.istore 4, 2) := dk_54 (dq_lk dX4_dayOf_w0 (r := 10) (x := 54) rfl) (dq_lk dX4_dayOf_w0 (r := 11) (x := 4) rfl)
theorem dX4_dayOf_12 : decode cX4_dayOf 12 = .ok (.iload 4, 2) := dk_21 (dq_lk dX4_dayOf_w0 (r := 12) (x := 21) rfl) (dq_lk dX4_dayOf_w0 (r := 13) (x := 4) rfl)
theorem dX4_dayOf_14 : decode cX4_dayOf 14 = .ok (.iload_n 1, 1) := dk_27 (dq_lk dX4_dayOf_w0 (r := 14) (x := 27) rfl)
theorem dX4_dayOf_15 : decode cX4_dayOf 15 = .ok (.if_icmp .ge 18, 3) := dk_162 (dq_lk dX4_dayOf_w0 (r := 15) (x := 162) rfl) (dq_lk dX4_dayOf_w0 (r := 16) (x := 0) rfl) (dq_lk dX4_dayOf_w0 (r := 17) (x := 18) rfl) (by decide +kernel)
theorem dX4_dayOf_18 : decode cX4_dayOf 18 = .ok (.iload_n 3, 1) := dk_29 (dq_lk dX4_dayOf_w0 (r := 18) (x := 29) rfl)
theorem dX4_dayOf_19 : decode cX4_dayOf 19 = .ok (.iload_n 0, 1) := dk_26 (dq_lk dX4_dayOf_w0 (r := 19) (x := 26) rfl)
theorem dX4_dayOf_20 : decode cX4_dayOf 20 = .ok (.iload 4, 2) := dk_21 (dq_lk dX4_dayOf_w0 (r := 20) (x := 21) rfl) (dq_lk dX4_dayOf_w0 (r := 21) (x := 4) rfl)
theorem dX4_dayOf_22 : decode cX4_dayOf 22 = .ok (.invokestatic 55, 3) := dk_184 (dq_lk dX4_dayOf_w0 (r := 22) (x := 184) rfl) (dq_lk dX4_dayOf_w0 (r := 23) (x := 0) rfl) (dq_lk dX4_dayOf_w0 (r := 24) (x := 55) rfl)
theorem dX4_dayOf_25 : decode cX4_dayOf 25 = .ok (.iadd, 1) := dk_96 (dq_lk dX4_dayOf_w0 (r := 25) (x := 96) rfl)
theorem dX4_dayOf_26 : decode cX4_dayOf 26 = .ok (.istore_n 3, 1) := dk_62 (dq_lk dX4_dayOf_w0 (r := 26) (x := 62) rfl)
theorem dX4_dayOf_27 : decode cX4_dayOf 27 = .ok (.iinc 4 1, 3) := dk_132 (dq_lk dX4_dayOf_w0 (r := 27) (x := 132) rfl) (dq_lk dX4_dayOf_w0 (r := 28) (x := 4) rfl) (dq_lk dX4_dayOf_w0 (r := 29) (x := 1) rfl) (by decide +kernel)
theorem dX4_dayOf_30 : decode cX4_dayOf 30 = .ok (.goto (-18), 3) := dk_167 (dq_lk dX4_dayOf_w0 (r := 30) (x := 167) rfl) (dq_lk dX4_dayOf_w0 (r := 31) (x := 255) rfl) (dq_lk dX4_dayOf_w0 (r := 32) (x := 238) rfl) (by decide +kernel)
theorem dX4_dayOf_33 : decode cX4_dayOf 33 = .ok (.iload_n 3, 1) := dk_29 (dq_lk dX4_dayOf_w0 (r := 33) (x := 29) rfl)
theorem dX4_dayOf_34 : decode cX4_dayOf 34 = .ok (.ireturn, 1) := dk_172 (dq_lk dX4_dayOf_w0 (r := 34) (x := 172) rfl)
theorem dX4_yearOf_w0 : (cX4_yearOf.data.toList.drop 0).take 64 = [17, 7, 118, 60, 17, 7, 119, 184, 0, 52, 61, 28, 26, 163, 0, 16, 132, 1, 1, 28, 27, 184, 0, 48, 96, 61, 167, 255, 241, 27, 172] := by decide +kernel
theorem dX4_yearOf_0 : decode cX4_yearOf 0 = .ok (.sipush 1910, 3) := dk_17 (dq_lk dX4_yearOf_w0 (r := 0) (x := 17) rfl) (dq_lk dX4_yearOf_w0 (r := 1) (x := 7) rfl) (dq_lk dX4_yearOf_w0 (r := 2) (x := 118) rfl) (by decide +kernel)
theorem dX4_yearOf_3 : decode cX4_yearOf 3 = .ok (.istore_n 1, 1) := dk_60 (dq_lk dX4_yearOf_w0 (r := 3) (x := 60) rfl)
theorem dX4_yearOf_4 : decode cX4_yearOf 4 = .ok (.sipush 1911, 3) := dk_17 (dq_lk dX4_yearOf_w0 (r := 4) (x := 17) rfl) (dq_lk dX4_yearOf_w0 (r := 5) (x := 7) rfl) (dq_lk dX4_yearOf_w0 (r := 6) (x := 119) rfl) (by decide +kernel)
theorem dX4_yearOf_7 : decode cX4_yearOf 7 = .ok (.invokestatic 52, 3) := dk_184 (dq_lk dX4_yearOf_w0 (r := 7) (x := 184) rfl) (dq_lk dX4_yearOf_w0 (r := 8) (x := 0) rfl) (dq_lk dX4_yearOf_w0 (r := 9) (x := 52) rfl)
theorem dX4_yearOf_10 : decode cX4_yearOf 10 = .ok (.istore_n 2, 1) := dk_61 (dq_lk dX4_yearOf_w0 (r := 10) (x := 61) rfl)
theorem dX4_yearOf_11 : decode cX4_yearOf 11 = .ok (.iload_n 2, 1) := dk_28 (dq_lk dX4_yearOf_w0 (r := 11) (x := 28) rfl)
theorem dX4_yearOf_12 : decode cX4_yearOf 12 = .ok (.iload_n 0, 1) := dk_26 (dq_lk dX4_yearOf_w0 (r := 12) (x := 26) rfl)
theorem dX4_yearOf_13 : decode cX4_yearOf 13 = .ok (.if_icmp .gt 16, 3) := dk_163 (dq_lk dX4_yearOf_w0 (r := 13) (x := 163) rfl) (dq_lk dX4_yearOf_w0 (r := 14) (x := 0) rfl) (dq_lk dX4_yearOf_w0 (r := 15) (x := 16) rfl) (by decide +kernel)
theorem dX4_yearOf_16 : decode cX4_yearOf 16 = .ok (.iinc 1 1, 3) := dk_132 (dq_lk dX4_yearOf_w0 (r := 16) (x := 132) rfl) (dq_lk dX4_yearOf_w0 (r := 17) (x := 1) rfl) (dq_lk dX4_yearOf_w0 (r := 18) (x := 1) rfl) (by decide +kernel)
theorem dX4_yearOf_19 : decode cX4_yearOf 19 = .ok (.iload_n 2, 1) := dk_28 (dq_lk dX4_yearOf_w0 (r := 19) (x := 28) rfl)
theorem dX4_yearOf_20 : decode cX4_yearOf 20 = .ok (.iload_n 1, 1) := dk_27 (dq_lk dX4_yearOf_w0 (r := 20) (x := 27) rfl)
theorem dX4_yearOf_21 : decode cX4_yearOf 21 = .ok (.invokestatic 48, 3) := dk_184 (dq_lk dX4_yearOf_w0 (r := 21) (x := 184) rfl) (dq_lk dX4_yearOf_w0 (r := 22) (x := 0) rfl) (dq_lk dX4_yearOf_w0 (r := 23) (x := 48) rfl)
theorem dX4_yearOf_24 : decode cX4_yearOf 24 = .ok (.iadd, 1) := dk_96 (dq_lk dX4_yearOf_w0 (r := 24) (x := 96) rfl)
theorem dX4_yearOf_25 : decode cX4_yearOf 25 = .ok (.istore_n 2, 1) := dk_61 (dq_lk dX4_yearOf_w0 (r := 25) (x := 61) rfl)
theorem dX4_yearOf_26 : decode cX4_yearOf 26 = .ok (.goto (-15), 3) := dk_167 (dq_lk dX4_yearOf_w0 (r := 26) (x := 167) rfl) (dq_lk dX4_yearOf_w0 (r := 27) (x := 255) rfl) (dq_lk dX4_yearOf_w0 (r := 28) (x := 241) rfl) (by decide +kernel)
theorem dX4_yearOf_29 : decode cX4_yearOf 29 = .ok (.iload_n 1, 1) := dk_27 (dq_lk dX4_yearOf_w0 (r := 29) (x := 27) rfl)
theorem dX4_yearOf_30 : decode cX4_yearOf 30 = .ok (.ireturn, 1) := dk_172 (dq_lk dX4_yearOf_w0 (r := 30) (x := 172) rfl)
theorem dX4_parts_w0 : (cX4_parts.data.toList.drop 0).take 64 = [26, 184, 0, 58, 60, 26, 27, 184, 0, 52, 100, 61, 28, 4, 96, 62, 4, 54, 4, 28, 27, 21, 4, 184, 0, 55, 161, 0, 18, 28, 27, 21, 4, 184, 0, 55, 100, 61, 132, 4, 1, 167, 255, 234, 7, 188, 10, 89, 3, 27, 79, 89, 4, 21, 4, 79, 89, 5, 28, 4, 96, 79, 89, 6] := by decide +kernel
theorem dX4_parts_w1 : (cX4_parts.data.toList.drop 64).take 64 = [29, 79, 176] := by decide +kernel
theorem dX4_parts_0 : decode cX4_parts 0 = .ok (.iload_n 0, 1) := dk_26 (dq_lk dX4_parts_w0 (r := 0) (x := 26) rfl)
theorem dX4_parts_1 : decode cX4_parts 1 = .ok (.invokestatic 58, 3) := dk_184 (dq_lk dX4_parts_w0 (r := 1) (x := 184) rfl) (dq_lk dX4_parts_w0 (r := 2) (x := 0) rfl) (dq_lk dX4_parts_w0 (r := 3) (x := 58) rfl)
theorem dX4_parts_4 : decode cX4_parts 4 = .ok (.istore_n 1, 1) := dk_60 (dq_lk dX4_parts_w0 (r := 4) (x := 60) rfl)
theorem dX4_parts_5 : decode cX4_parts 5 = .ok (.iload_n 0, 1) := dk_26 (dq_lk dX4_parts_w0 (r := 5) (x := 26) rfl)
theorem dX4_parts_6 : decode cX4_parts 6 = .ok (.iload_n 1, 1) := dk_27 (dq_lk dX4_parts_w0 (r := 6) (x := 27) rfl)
theorem dX4_parts_7 : decode cX4_parts 7 = .ok (.invokestatic 52, 3) := dk_184 (dq_lk dX4_parts_w0 (r := 7) (x := 184) rfl) (dq_lk dX4_parts_w0 (r := 8) (x := 0) rfl) (dq_lk dX4_parts_w0 (r := 9) (x := 52) rfl)
theorem dX4_parts_10 : decode cX4_parts 10 = .ok (.isub, 1) := dk_100 (dq_lk dX4_parts_w0 (r := 10) (x := 100) rfl)
theorem dX4_parts_11 : decode cX4_parts 11 = .ok (.istore_n 2, 1) := dk_61 (dq_lk dX4_parts_w0 (r := 11) (x := 61) rfl)
theorem dX4_parts_12 : decode cX4_parts 12 = .ok (.iload_n 2, 1) := dk_28 (dq_lk dX4_parts_w0 (r := 12) (x := 28) rfl)
theorem dX4_parts_13 : decode cX4_parts 13 = .ok (.iconst 1, 1) := dk_4 (dq_lk dX4_parts_w0 (r := 13) (x := 4) rfl)
theorem dX4_parts_14 : decode cX4_parts 14 = .ok (.iadd, 1) := dk_96 (dq_lk dX4_parts_w0 (r := 14) (x := 96) rfl)
theorem dX4_parts_15 : decode cX4_parts 15 = .ok (.istore_n 3, 1) := dk_62 (dq_lk dX4_parts_w0 (r := 15) (x := 62) rfl)
theorem dX4_parts_16 : decode cX4_parts 16 = .ok (.iconst 1, 1) := dk_4 (dq_lk dX4_parts_w0 (r := 16) (x := 4) rfl)
theorem dX4_parts_17 : decode cX4_parts 17 = .ok (.istore 4, 2) := dk_54 (dq_lk dX4_parts_w0 (r := 17) (x := 54) rfl) (dq_lk dX4_parts_w0 (r := 18) (x := 4) rfl)
theorem dX4_parts_19 : decode cX4_parts 19 = .ok (.iload_n 2, 1) := dk_28 (dq_lk dX4_parts_w0 (r := 19) (x := 28) rfl)
theorem dX4_parts_20 : decode cX4_parts 20 = .ok (.iload_n 1, 1) := dk_27 (dq_lk dX4_parts_w0 (r := 20) (x := 27) rfl)
theorem dX4_parts_21 : decode cX4_parts 21 = .ok (.iload 4, 2) := dk_21 (dq_lk dX4_parts_w0 (r := 21) (x := 21) rfl) (dq_lk dX4_parts_w0 (r := 22) (x := 4) rfl)
theorem dX4_parts_23 : decode cX4_parts 23 = .ok (.invokestatic 55, 3) := dk_184 (dq_lk dX4_parts_w0 (r := 23) (x := 184) rfl) (dq_lk dX4_parts_w0 (r := 24) (x := 0) rfl) (dq_lk dX4_parts_w0 (r := 25) (x := 55) rfl)
theorem dX4_parts_26 : decode cX4_parts 26 = .ok (.if_icmp .lt 18, 3) := dk_161 (dq_lk dX4_parts_w0 (r := 26) (x := 161) rfl) (dq_lk dX4_parts_w0 (r := 27) (x := 0) rfl) (dq_lk dX4_parts_w0 (r := 28) (x := 18) rfl) (by decide +kernel)
theorem dX4_parts_29 : decode cX4_parts 29 = .ok (.iload_n 2, 1) := dk_28 (dq_lk dX4_parts_w0 (r := 29) (x := 28) rfl)
theorem dX4_parts_30 : decode cX4_parts 30 = .ok (.iload_n 1, 1) := dk_27 (dq_lk dX4_parts_w0 (r := 30) (x := 27) rfl)
theorem dX4_parts_31 : decode cX4_parts 31 = .ok (.iload 4, 2) := dk_21 (dq_lk dX4_parts_w0 (r := 31) (x := 21) rfl) (dq_lk dX4_parts_w0 (r := 32) (x := 4) rfl)
theorem dX4_parts_33 : decode cX4_parts 33 = .ok (.invokestatic 55, 3) := dk_184 (dq_lk dX4_parts_w0 (r := 33) (x := 184) rfl) (dq_lk dX4_parts_w0 (r := 34) (x := 0) rfl) (dq_lk dX4_parts_w0 (r := 35) (x := 55) rfl)
theorem dX4_parts_36 : decode cX4_parts 36 = .ok (.isub, 1) := dk_100 (dq_lk dX4_parts_w0 (r := 36) (x := 100) rfl)
theorem dX4_parts_37 : decode cX4_parts 37 = .ok (.istore_n 2, 1) := dk_61 (dq_lk dX4_parts_w0 (r := 37) (x := 61) rfl)
theorem dX4_parts_38 : decode cX4_parts 38 = .ok (.iinc 4 1, 3) := dk_132 (dq_lk dX4_parts_w0 (r := 38) (x := 132) rfl) (dq_lk dX4_parts_w0 (r := 39) (x := 4) rfl) (dq_lk dX4_parts_w0 (r := 40) (x := 1) rfl) (by decide +kernel)
theorem dX4_parts_41 : decode cX4_parts 41 = .ok (.goto (-22), 3) := dk_167 (dq_lk dX4_parts_w0 (r := 41) (x := 167) rfl) (dq_lk dX4_parts_w0 (r := 42) (x := 255) rfl) (dq_lk dX4_parts_w0 (r := 43) (x := 234) rfl) (by decide +kernel)
theorem dX4_parts_44 : decode cX4_parts 44 = .ok (.iconst 4, 1) := dk_7 (dq_lk dX4_parts_w0 (r := 44) (x := 7) rfl)
theorem dX4_parts_45 : decode cX4_parts 45 = .ok (.newarray .int, 2) := by decide +kernel
theorem dX4_parts_47 : decode cX4_parts 47 = .ok (.dup, 1) := dk_89 (dq_lk dX4_parts_w0 (r := 47) (x := 89) rfl)
theorem dX4_parts_48 : decode cX4_parts 48 = .ok (.iconst 0, 1) := dk_3 (dq_lk dX4_parts_w0 (r := 48) (x := 3) rfl)
theorem dX4_parts_49 : decode cX4_parts 49 = .ok (.iload_n 1, 1) := dk_27 (dq_lk dX4_parts_w0 (r := 49) (x := 27) rfl)
theorem dX4_parts_50 : decode cX4_parts 50 = .ok (.iastore, 1) := dk_79 (dq_lk dX4_parts_w0 (r := 50) (x := 79) rfl)
theorem dX4_parts_51 : decode cX4_parts 51 = .ok (.dup, 1) := dk_89 (dq_lk dX4_parts_w0 (r := 51) (x := 89) rfl)
theorem dX4_parts_52 : decode cX4_parts 52 = .ok (.iconst 1, 1) := dk_4 (dq_lk dX4_parts_w0 (r := 52) (x := 4) rfl)
theorem dX4_parts_53 : decode cX4_parts 53 = .ok (.iload 4, 2) := dk_21 (dq_lk dX4_parts_w0 (r := 53) (x := 21) rfl) (dq_lk dX4_parts_w0 (r := 54) (x := 4) rfl)
theorem dX4_parts_55 : decode cX4_parts 55 = .ok (.iastore, 1) := dk_79 (dq_lk dX4_parts_w0 (r := 55) (x := 79) rfl)
theorem dX4_parts_56 : decode cX4_parts 56 = .ok (.dup, 1) := dk_89 (dq_lk dX4_parts_w0 (r := 56) (x := 89) rfl)
theorem dX4_parts_57 : decode cX4_parts 57 = .ok (.iconst 2, 1) := dk_5 (dq_lk dX4_parts_w0 (r := 57) (x := 5) rfl)
theorem dX4_parts_58 : decode cX4_parts 58 = .ok (.iload_n 2, 1) := dk_28 (dq_lk dX4_parts_w0 (r := 58) (x := 28) rfl)
theorem dX4_parts_59 : decode cX4_parts 59 = .ok (.iconst 1, 1) := dk_4 (dq_lk dX4_parts_w0 (r := 59) (x := 4) rfl)
theorem dX4_parts_60 : decode cX4_parts 60 = .ok (.iadd, 1) := dk_96 (dq_lk dX4_parts_w0 (r := 60) (x := 96) rfl)
theorem dX4_parts_61 : decode cX4_parts 61 = .ok (.iastore, 1) := dk_79 (dq_lk dX4_parts_w0 (r := 61) (x := 79) rfl)
theorem dX4_parts_62 : decode cX4_parts 62 = .ok (.dup, 1) := dk_89 (dq_lk dX4_parts_w0 (r := 62) (x := 89) rfl)
theorem dX4_parts_63 : decode cX4_parts 63 = .ok (.iconst 3, 1) := dk_6 (dq_lk dX4_parts_w0 (r := 63) (x := 6) rfl)
theorem dX4_parts_64 : decode cX4_parts 64 = .ok (.iload_n 3, 1) := dk_29 (dq_lk dX4_parts_w1 (r := 0) (x := 29) rfl)
theorem dX4_parts_65 : decode cX4_parts 65 = .ok (.iastore, 1) := dk_79 (dq_lk dX4_parts_w1 (r := 1) (x := 79) rfl)
theorem dX4_parts_66 : decode cX4_parts 66 = .ok (.areturn, 1) := dk_176 (dq_lk dX4_parts_w1 (r := 2) (x := 176) rfl)
theorem c_X4_firstOf (tys : List (ClassId × FieldType)) (ws : va_W) (y : Nat) (hy : y < 2100) (hy0 : 1900 ≤ y) : mCt tys yX4_firstOf cX4_firstOf 3 (some .int) ⟨2, 0, 0, 48⟩ [.int (nI y)] ws (fun v ws' => v = some (.int (iZ (FO y))) ∧ ws' = ws) mNo := by
  refine mCt.of (by decide +kernel) (Nat.le_of_ble_eq_true rfl) (fun X hX hE => ?_)
  replace hX : mOK X RX4 cX4_firstOf 3 ⟨2, 0, 0, 48⟩ [] tys := hX
  have fin : ∀ lv, lget lv 1 = some (.int (iZ (FO y))) → mV X 46 lv [] ws 0 0 := fun lv h => by
    refine r_iload_n hX dX4_firstOf_46 rfl h ?_
    exact r_iret hX hE dX4_firstOf_47 (Nat.le_of_ble_eq_true rfl) (Nat.le_of_ble_eq_true rfl) ⟨rfl, rfl⟩
  have L26 : ∀ (N k : Nat), 1970 - k < N → y ≤ k → k ≤ 2100 → mV X 26 [(0, some (.int (nI y))), (1, some (.int (iZ (if k ≤ 1970 then FO y - FO k else FO y)))), (2, some (.int (nI k)))] [] ws 0 0 := by
    intro N
    induction N with
    | zero => intro k h; omega
    | succ N ih =>
      intro k h1 h2 h3
      by_cases hb : k < 1970
      · refine r_iload_n hX dX4_firstOf_26 rfl rfl ?_
        refine r_sipush (v := 1970) hX dX4_firstOf_27 (by decide) ?_
        refine r_icmp_ge (tgt := 46) hX dX4_firstOf_30 (by decide) (fun c => absurd ((nI_leI (a := 1970) (b := k) (by omega) (by omega)).mp c) (by omega)) (fun c => ?_)
        refine r_iload_n hX dX4_firstOf_33 rfl rfl ?_
        refine r_iload_n hX dX4_firstOf_34 rfl rfl ?_
        refine r_callS hX (c_X4_daysOf_ _ _ k (by omega)) ks_X4_48 rfl rfl (Nat.le_of_ble_eq_true rfl) ⟨(Nat.le_of_ble_eq_true rfl), (Nat.le_of_ble_eq_true rfl)⟩ ⟨(Nat.le_of_ble_eq_true rfl), (Nat.le_of_ble_eq_true rfl)⟩ dX4_firstOf_35 (fun _ _ z => False.elim z) (fun v9 ws9 h => ?_)
        obtain ⟨rfl, hw9⟩ := h
        subst ws9
        dsimp only [mPush]
        refine r_isub hX dX4_firstOf_38 ?_
        refine r_istore_n hX dX4_firstOf_39 rfl (by decide) rfl ?_
        refine r_iinc hX dX4_firstOf_40 rfl (by decide) rfl ?_
        refine r_goto (tgt := 26) hX dX4_firstOf_43 (by decide) ?_
        refine r_loc (k' := 0) (n' := 0) ?_ (by decide) (by decide) (ih (k + 1) (by omega) (by omega) (by omega))
        refine ⟨rfl, ?_, nI_inc' _, trivial⟩
        have hs := FO_s (y := k) (by omega)
        rw [if_pos (by omega : k ≤ 1970), if_pos (by omega : k + 1 ≤ 1970), iZ_nI (yl k), iZ_sub]
        exact congrArg (fun z : Int => some (Value.int (iZ z))) (by omega)
      · refine r_iload_n hX dX4_firstOf_26 rfl rfl ?_
        refine r_sipush (v := 1970) hX dX4_firstOf_27 (by decide) ?_
        by_cases hk : k < 2147483648
        · refine r_icmp_ge (tgt := 46) hX dX4_firstOf_30 (by decide) (fun c => ?_) (fun c => absurd ((nI_leI (a := 1970) (b := k) (by omega) (by omega)).mpr (by omega)) c)
          refine fin _ ?_
          by_cases h70 : k ≤ 1970
          · have : k = 1970 := by omega
            subst this
            rw [if_pos (by omega), FO_1970, Int.sub_zero]
            rfl
          · rw [if_neg h70]
            rfl
        · omega
  have L6 : ∀ (N k : Nat), y - k < N → k ≤ y → 1970 ≤ k → mV X 6 [(0, some (.int (nI y))), (1, some (.int (iZ (FO k)))), (2, some (.int (nI k)))] [] ws 0 0 := by
    intro N
    induction N with
    | zero => intro k h; omega
    | succ N ih =>
      intro k h1 h2 h3
      refine r_iload_n hX dX4_firstOf_6 rfl rfl ?_
      refine r_iload_n hX dX4_firstOf_7 rfl rfl ?_
      refine r_icmp_ge (tgt := 24) hX dX4_firstOf_8 (by decide) (fun c => ?_) (fun c => ?_)
      · have hk : k = y := by
          have := (nI_leI (a := y) (b := k) (by omega) (by omega)).mp c
          omega
        subst hk
        refine r_iload_n hX dX4_firstOf_24 rfl rfl ?_
        refine r_istore_n hX dX4_firstOf_25 rfl (by decide) rfl ?_
        refine r_loc (k' := 0) (n' := 0) ?_ (by decide) (by decide) (L26 (1970 - k + 1) k (by omega) (by omega) (by omega))
        refine ⟨rfl, ?_, rfl, trivial⟩
        by_cases h70 : k ≤ 1970
        · have : k = 1970 := by omega
          subst this
          rw [if_pos (by omega), FO_1970]
          rfl
        · rw [if_neg h70]
          rfl
      · have hk : k < y := by
          rcases Nat.lt_or_ge k y with q | q
          · exact q
          · exact absurd ((nI_leI (a := y) (b := k) (by omega) (by omega)).mpr q) c
        refine r_iload_n hX dX4_firstOf_11 rfl rfl ?_
        refine r_iload_n hX dX4_firstOf_12 rfl rfl ?_
        refine r_callS hX (c_X4_daysOf_ _ _ k (by omega)) ks_X4_48 rfl rfl (Nat.le_of_ble_eq_true rfl) ⟨(Nat.le_of_ble_eq_true rfl), (Nat.le_of_ble_eq_true rfl)⟩ ⟨(Nat.le_of_ble_eq_true rfl), (Nat.le_of_ble_eq_true rfl)⟩ dX4_firstOf_13 (fun _ _ z => False.elim z) (fun v9 ws9 h => ?_)
        obtain ⟨rfl, hw9⟩ := h
        subst ws9
        dsimp only [mPush]
        refine r_iadd hX dX4_firstOf_16 ?_
        refine r_istore_n hX dX4_firstOf_17 rfl (by decide) rfl ?_
        refine r_iinc hX dX4_firstOf_18 rfl (by decide) rfl ?_
        refine r_goto (tgt := 6) hX dX4_firstOf_21 (by decide) ?_
        refine r_loc (k' := 0) (n' := 0) ?_ (by decide) (by decide) (ih (k + 1) (by omega) (by omega) (by omega))
        refine ⟨rfl, ?_, nI_inc' _, trivial⟩
        have hs := FO_s (y := k) (by omega)
        rw [iZ_nI (yl k), iZ_add, hs]
        rfl
  refine r_iconst (v := 0) hX dX4_firstOf_0 (by decide) ?_
  refine r_istore_n hX dX4_firstOf_1 rfl (by decide) rfl ?_
  refine r_sipush (v := 1970) hX dX4_firstOf_2 (by decide) ?_
  refine r_istore_n hX dX4_firstOf_5 rfl (by decide) rfl ?_
  by_cases h70 : 1970 ≤ y
  · refine r_loc (k' := 0) (n' := 0) ?_ (by decide) (by decide) (L6 (y - 1970 + 1) 1970 (by omega) h70 (by omega))
    refine ⟨rfl, ?_, rfl, trivial⟩
    rw [FO_1970]
    rfl
  · refine r_iload_n hX dX4_firstOf_6 rfl rfl ?_
    refine r_iload_n hX dX4_firstOf_7 rfl rfl ?_
    refine r_icmp_ge (tgt := 24) hX dX4_firstOf_8 (by decide) (fun c => ?_) (fun c => absurd ((nI_leI (a := y) (b := 1970) (by omega) (by omega)).mpr (by omega)) c)
    refine r_iload_n hX dX4_firstOf_24 rfl rfl ?_
    refine r_istore_n hX dX4_firstOf_25 rfl (by decide) rfl ?_
    refine r_loc (k' := 0) (n' := 0) ?_ (by decide) (by decide) (L26 (1970 - y + 1) y (by omega) (by omega) (by omega))
    refine ⟨rfl, ?_, rfl, trivial⟩
    rw [if_pos (by omega), Int.sub_self]
    rfl
theorem c_X4_dayOf (tys : List (ClassId × FieldType)) (ws : va_W) (y : Nat) (hy : y < 2100) (hy0 : 1900 ≤ y) (m : Nat) (hm : m ≤ 12) (hm0 : 1 ≤ m) (d : Nat) (hd : d < 1000) : mCt tys yX4_dayOf cX4_dayOf 5 (some .int) ⟨3, 0, 0, 70⟩ [.int (nI y), .int (nI m), .int (nI d)] ws (fun v ws' => v = some (.int (iZ (FO y + DB y m + (d : Int) - 1))) ∧ ws' = ws) mNo := by
  refine mCt.of (by decide +kernel) (Nat.le_of_ble_eq_true rfl) (fun X hX hE => ?_)
  replace hX : mOK X RX4 cX4_dayOf 5 ⟨3, 0, 0, 70⟩ [] tys := hX
  have L12 : ∀ (N k : Nat), m - k < N → k ≤ m → 1 ≤ k → mV X 12 [(0, some (.int (nI y))), (1, some (.int (nI m))), (3, some (.int (iZ (FO y + DB y k + (d : Int) - 1)))), (4, some (.int (nI k)))] [] ws 0 0 := by
    intro N
    induction N with
    | zero => intro k h; omega
    | succ N ih =>
      intro k h1 h2 h3
      refine r_iload hX dX4_dayOf_12 rfl ?_
      refine r_iload_n hX dX4_dayOf_14 rfl rfl ?_
      refine r_icmp_ge (tgt := 33) hX dX4_dayOf_15 (by decide) (fun c => ?_) (fun c => ?_)
      · have hk : k = m := by
          have := (nI_leI (a := m) (b := k) (by omega) (by omega)).mp c
          omega
        subst hk
        refine r_iload_n hX dX4_dayOf_33 rfl rfl ?_
        exact r_iret hX hE dX4_dayOf_34 (Nat.le_of_ble_eq_true rfl) (Nat.le_of_ble_eq_true rfl) ⟨rfl, rfl⟩
      · have hk : k < m := by
          rcases Nat.lt_or_ge k m with q | q
          · exact q
          · exact absurd ((nI_leI (a := m) (b := k) (by omega) (by omega)).mpr q) c
        refine r_iload_n hX dX4_dayOf_18 rfl rfl ?_
        refine r_iload_n hX dX4_dayOf_19 rfl rfl ?_
        refine r_iload hX dX4_dayOf_20 rfl ?_
        refine r_callS hX (c_X4_daysOf _ _ y hy k (by omega)) ks_X4_55 rfl rfl (Nat.le_of_ble_eq_true rfl) ⟨(Nat.le_of_ble_eq_true rfl), (Nat.le_of_ble_eq_true rfl)⟩ ⟨(Nat.le_of_ble_eq_true rfl), (Nat.le_of_ble_eq_true rfl)⟩ dX4_dayOf_22 (fun _ _ z => False.elim z) (fun v9 ws9 h => ?_)
        obtain ⟨rfl, hw9⟩ := h
        subst ws9
        dsimp only [mPush]
        refine r_iadd hX dX4_dayOf_25 ?_
        refine r_istore_n hX dX4_dayOf_26 rfl (by decide) rfl ?_
        refine r_iinc hX dX4_dayOf_27 rfl (by decide) rfl ?_
        refine r_goto (tgt := 12) hX dX4_dayOf_30 (by decide) ?_
        refine r_loc (k' := 0) (n' := 0) ?_ (by decide) (by decide) (ih (k + 1) (by omega) (by omega) (by omega))
        refine ⟨rfl, rfl, ?_, nI_inc' _, trivial⟩
        rw [DB_s h3, iZ_nI (dm y k), iZ_add]
        exact congrArg (fun z : Int => some (Value.int (iZ z))) (by omega)
  refine r_iload_n hX dX4_dayOf_0 rfl rfl ?_
  refine r_callS hX (c_X4_firstOf _ _ y hy hy0) ks_X4_52 rfl rfl (Nat.le_of_ble_eq_true rfl) ⟨(Nat.le_of_ble_eq_true rfl), (Nat.le_of_ble_eq_true rfl)⟩ ⟨(Nat.le_of_ble_eq_true rfl), (Nat.le_of_ble_eq_true rfl)⟩ dX4_dayOf_1 (fun _ _ z => False.elim z) (fun v9 ws9 h => ?_)
  obtain ⟨rfl, hw9⟩ := h
  subst ws9
  dsimp only [mPush]
  refine r_iload_n hX dX4_dayOf_4 rfl rfl ?_
  refine r_iadd hX dX4_dayOf_5 ?_
  refine r_iconst (v := 1) hX dX4_dayOf_6 (by decide) ?_
  refine r_isub hX dX4_dayOf_7 ?_
  refine r_istore_n hX dX4_dayOf_8 rfl (by decide) rfl ?_
  refine r_iconst (v := 1) hX dX4_dayOf_9 (by decide) ?_
  refine r_istore hX dX4_dayOf_10 (by decide) rfl ?_
  refine r_loc (k' := 0) (n' := 0) ?_ (by decide) (by decide) (L12 m 1 (by omega) hm0 (by omega))
  refine ⟨rfl, rfl, ?_, rfl, trivial⟩
  rw [DB_1, iZ_nI d, iZ_add, show (1 : Int32) = iZ 1 by decide, iZ_sub]
  exact congrArg (fun z : Int => some (Value.int (iZ z))) (by omega)
theorem c_X4_yearOf (tys : List (ClassId × FieldType)) (ws : va_W) (d : Int) (h1 : -21915 ≤ d) (h2 : d ≤ 22279) : mCt tys yX4_yearOf cX4_yearOf 3 (some .int) ⟨3, 0, 0, 70⟩ [.int (iZ d)] ws (fun v ws' => ∃ y, 1910 ≤ y ∧ y ≤ 2030 ∧ FO y ≤ d ∧ d < FO (y + 1) ∧ v = some (.int (nI y)) ∧ ws' = ws) mNo := by
  refine mCt.of (by decide +kernel) (Nat.le_of_ble_eq_true rfl) (fun X hX hE => ?_)
  replace hX : mOK X RX4 cX4_yearOf 3 ⟨3, 0, 0, 70⟩ [] tys := hX
  have L11 : ∀ (N y : Nat), 2031 - y < N → 1910 ≤ y → y ≤ 2030 → FO y ≤ d → mV X 11 [(0, some (.int (iZ d))), (1, some (.int (nI y))), (2, some (.int (iZ (FO (y + 1)))))] [] ws 0 0 := by
    intro N
    induction N with
    | zero => intro y h; omega
    | succ N ih =>
      intro y hN hy1 hy2 hF
      have hb := FO_b (y := y + 1) (by omega)
      refine r_iload_n hX dX4_yearOf_11 rfl rfl ?_
      refine r_iload_n hX dX4_yearOf_12 rfl rfl ?_
      refine r_icmp_gt (tgt := 29) hX dX4_yearOf_13 (by decide) (fun c => ?_) (fun c => ?_)
      · have hlt := (iZ_lt (a := d) (b := FO (y + 1)) (by omega) (by omega) (by omega) (by omega)).mp c
        refine r_iload_n hX dX4_yearOf_29 rfl rfl ?_
        exact r_iret hX hE dX4_yearOf_30 (Nat.le_of_ble_eq_true rfl) (Nat.le_of_ble_eq_true rfl) ⟨y, hy1, hy2, hF, hlt, rfl, rfl⟩
      · have hge : FO (y + 1) ≤ d := by
          by_cases q : d < FO (y + 1)
          · exact absurd ((iZ_lt (a := d) (b := FO (y + 1)) (by omega) (by omega) (by omega) (by omega)).mpr q) c
          · omega
        have hy3 : y + 1 ≤ 2030 := by
          rcases Nat.lt_or_ge y 2030 with q | q
          · omega
          · have : y = 2030 := by omega
            subst this
            rw [FO_2031] at hge
            omega
        refine r_iinc hX dX4_yearOf_16 rfl (by decide) rfl ?_
        refine r_iload_n hX dX4_yearOf_19 rfl rfl ?_
        refine r_iload_n (x := nI (y + 1)) hX dX4_yearOf_20 rfl (nI_inc' _) ?_
        refine r_callS hX (c_X4_daysOf_ _ _ (y + 1) (by omega)) ks_X4_48 rfl rfl (Nat.le_of_ble_eq_true rfl) ⟨(Nat.le_of_ble_eq_true rfl), (Nat.le_of_ble_eq_true rfl)⟩ ⟨(Nat.le_of_ble_eq_true rfl), (Nat.le_of_ble_eq_true rfl)⟩ dX4_yearOf_21 (fun _ _ z => False.elim z) (fun v9 ws9 h => ?_)
        obtain ⟨rfl, hw9⟩ := h
        subst ws9
        dsimp only [mPush]
        refine r_iadd hX dX4_yearOf_24 ?_
        refine r_istore_n hX dX4_yearOf_25 rfl (by decide) rfl ?_
        refine r_goto (tgt := 11) hX dX4_yearOf_26 (by decide) ?_
        refine r_loc (k' := 0) (n' := 0) ?_ (by decide) (by decide) (ih (y + 1) (by omega) (by omega) hy3 hge)
        refine ⟨rfl, nI_inc' _, ?_, trivial⟩
        have hs := FO_s (y := y + 1) (by omega)
        rw [iZ_nI (yl (y + 1)), iZ_add, hs]
        rfl
  refine r_sipush (v := 1910) hX dX4_yearOf_0 (by decide) ?_
  refine r_istore_n hX dX4_yearOf_3 rfl (by decide) rfl ?_
  refine r_sipush (v := nI 1911) hX dX4_yearOf_4 (by decide) ?_
  refine r_callS hX (c_X4_firstOf _ _ 1911 (by decide) (by decide)) ks_X4_52 rfl rfl (Nat.le_of_ble_eq_true rfl) ⟨(Nat.le_of_ble_eq_true rfl), (Nat.le_of_ble_eq_true rfl)⟩ ⟨(Nat.le_of_ble_eq_true rfl), (Nat.le_of_ble_eq_true rfl)⟩ dX4_yearOf_7 (fun _ _ z => False.elim z) (fun v9 ws9 h => ?_)
  obtain ⟨rfl, hw9⟩ := h
  subst ws9
  dsimp only [mPush]
  refine r_istore_n hX dX4_yearOf_10 rfl (by decide) rfl ?_
  exact r_loc (k' := 0) (n' := 0) (by exact ⟨rfl, rfl, rfl, trivial⟩) (by decide) (by decide) (L11 122 1910 (by decide) (by decide) (by decide) (by rw [FO_1910]; exact h1))


