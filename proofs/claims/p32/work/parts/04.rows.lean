-- 20 cal20
section
/-! The reference, its contracts (rows by a program of this repository). -/
/-! THE CALENDAR, by years as naturals and days as whole numbers. (Own work.) -/
abbrev iZ (z : Int) : Int32 := Int32.ofInt z
theorem iZ_toInt {z : Int} (h1 : -2147483648 ≤ z) (h2 : z < 2147483648) : (iZ z).toInt = z := Int32.toInt_ofInt_of_le (by omega) (by omega)
theorem iZ_nI (n : Nat) : nI n = iZ n := Int32.ofInt_eq_ofNat.symm
theorem iZ_add (a b : Int) : iZ a + iZ b = iZ (a + b) := (Int32.ofInt_add a b).symm
theorem iZ_sub (a b : Int) : iZ a - iZ b = iZ (a - b) := (Int32.ofInt_sub a b).symm
theorem iZ_le {a b : Int} (h1 : -2147483648 ≤ a) (h2 : a < 2147483648) (h3 : -2147483648 ≤ b) (h4 : b < 2147483648) : iZ a ≤ iZ b ↔ a ≤ b := by
  rw [Int32.le_iff_toInt_le, iZ_toInt h1 h2, iZ_toInt h3 h4]
theorem iZ_lt {a b : Int} (h1 : -2147483648 ≤ a) (h2 : a < 2147483648) (h3 : -2147483648 ≤ b) (h4 : b < 2147483648) : iZ a < iZ b ↔ a < b := by
  rw [Int32.lt_iff_toInt_lt, iZ_toInt h1 h2, iZ_toInt h3 h4]
def leapb (y : Nat) : Bool := y % 400 == 0 || (y % 4 == 0 && !(y % 100 == 0))
def yl (y : Nat) : Nat := if leapb y = true then 366 else 365
def dm (y m : Nat) : Nat := if m = 2 then (if leapb y = true then 29 else 28) else if m = 4 ∨ m = 6 ∨ m = 9 ∨ m = 11 then 30 else 31
/-- the epoch day of a year's first of January -/
def FO (y : Nat) : Int := 365 * ((y : Int) - 1970) + ((y : Int) - 1) / 4 - ((y : Int) - 1) / 100 + ((y : Int) - 1) / 400 - 477
/-- the days ahead of a month -/
def DB (y : Nat) : Nat → Int
  | 0 => 0
  | m + 1 => DB y m + (if m = 0 then 0 else (dm y m : Int))
theorem mlp_k {y : Nat} {k : Int} (h : y < 2100) (h1 : 1 ≤ k) (h2 : k ≤ 400) : (nI y - nI y / iZ k * iZ k = 0) ↔ (y : Int) % k = 0 := by
  have hm : iZ (y : Int) ≠ Int32.minValue := by
    intro q
    have h5 := congrArg Int32.toInt q
    rw [iZ_toInt (by omega) (by omega)] at h5
    have h6 : Int32.minValue.toInt = -2147483648 := rfl
    omega
  have hq : 0 ≤ (y : Int) / k ∧ (y : Int) / k ≤ y := ⟨Int.ediv_nonneg (by omega) (by omega), Int.ediv_le_self k (by omega)⟩
  have hd : iZ (y : Int) / iZ k = iZ ((y : Int) / k) := by
    apply Int32.toInt_inj.mp
    rw [Int32.toInt_div_of_ne_left _ _ hm, iZ_toInt (by omega) (by omega), iZ_toInt (by omega) (by omega), iZ_toInt (by omega) (by omega), Int.tdiv_eq_ediv_of_nonneg (by omega)]
  have hmul : iZ ((y : Int) / k) * iZ k = iZ ((y : Int) / k * k) := (Int32.ofInt_mul _ _).symm
  have hmod : (y : Int) - (y : Int) / k * k = (y : Int) % k := by rw [Int.emod_def, Int.mul_comm]
  have hr : 0 ≤ (y : Int) % k ∧ (y : Int) % k < k := ⟨Int.emod_nonneg _ (by omega), Int.emod_lt_of_pos _ (by omega)⟩
  rw [iZ_nI, hd, hmul, iZ_sub, hmod]
  constructor
  · intro q
    have h5 := congrArg Int32.toInt q
    rw [iZ_toInt (by omega) (by omega)] at h5
    have h6 : (0 : Int32).toInt = 0 := rfl
    omega
  · intro q
    exact (congrArg iZ q).trans (by decide +kernel)
theorem mlp400 {y : Nat} (h : y < 2100) : (nI y - nI y / 400 * 400 = 0) ↔ y % 400 = 0 := by
  have h1 := mlp_k (k := 400) h (by omega) (by omega)
  rw [show iZ 400 = 400 by decide +kernel] at h1
  exact h1.trans (by omega)
theorem mlp100 {y : Nat} (h : y < 2100) : (nI y - nI y / 100 * 100 = 0) ↔ y % 100 = 0 := by
  have h1 := mlp_k (k := 100) h (by omega) (by omega)
  rw [show iZ 100 = 100 by decide +kernel] at h1
  exact h1.trans (by omega)
theorem mlp4 {y : Nat} (h : y < 2100) : (nI y - nI y / 4 * 4 = 0) ↔ y % 4 = 0 := by
  have h1 := mlp_k (k := 4) h (by omega) (by omega)
  rw [show iZ 4 = 4 by decide +kernel] at h1
  exact h1.trans (by omega)
theorem FO_s {y : Nat} (h : y < 2100) : FO (y + 1) = FO y + (yl y : Int) := by
  have e : leapb y = true ↔ (y % 400 = 0 ∨ (y % 4 = 0 ∧ ¬ y % 100 = 0)) := by
    simp only [leapb, Bool.or_eq_true, Bool.and_eq_true, beq_iff_eq, Bool.not_eq_true', beq_eq_false_iff_ne, ne_eq]
  unfold FO yl
  by_cases q : leapb y = true
  · rw [if_pos q]
    have := e.mp q
    omega
  · rw [if_neg q]
    have : ¬ (y % 400 = 0 ∨ (y % 4 = 0 ∧ ¬ y % 100 = 0)) := fun w => q (e.mpr w)
    omega
theorem FO_b {y : Nat} (h : y < 2100) : -800000 ≤ FO y ∧ FO y ≤ 800000 := by
  unfold FO
  omega
theorem FO_1970 : FO 1970 = 0 := by decide +kernel
theorem FO_1910 : FO 1910 = -21915 := by decide +kernel
theorem FO_2031 : FO 2031 = 22280 := by decide +kernel
theorem yl_b (y : Nat) : yl y = 365 ∨ yl y = 366 := by unfold yl; split <;> simp
theorem FO_m {y : Nat} : ∀ {z : Nat}, y ≤ z → z < 2100 → FO y ≤ FO z := by
  intro z
  induction z with
  | zero => intro h _; have : y = 0 := by omega
            subst this; exact Int.le_refl _
  | succ z ih =>
    intro h hz
    rcases Nat.lt_or_ge z y with q | q
    · have : y = z + 1 := by omega
      subst this; exact Int.le_refl _
    · have h1 := ih q (by omega)
      have h2 := FO_s (y := z) (by omega)
      omega
theorem dm_b (y m : Nat) : 28 ≤ dm y m ∧ dm y m ≤ 31 := by
  unfold dm
  split
  · split <;> omega
  · split <;> omega
theorem DB_1 (y : Nat) : DB y 1 = 0 := by simp [DB]
theorem DB_s {y m : Nat} (h : 1 ≤ m) : DB y (m + 1) = DB y m + (dm y m : Int) := by
  rw [DB, if_neg (by omega)]
theorem DB_13 (y : Nat) : DB y 13 = (yl y : Int) := by
  cases h : leapb y <;> simp [DB, dm, yl, h]
theorem DB_12 (y : Nat) : DB y 12 + 31 = (yl y : Int) := by
  cases h : leapb y <;> simp [DB, dm, yl, h]
theorem dm_12 (y : Nat) : dm y 12 = 31 := by simp [dm]
theorem DB_b {y m : Nat} (h : m ≤ 13) : 0 ≤ DB y m ∧ DB y m ≤ 366 := by
  rcases (show m = 0 ∨ m = 1 ∨ m = 2 ∨ m = 3 ∨ m = 4 ∨ m = 5 ∨ m = 6 ∨ m = 7 ∨ m = 8 ∨ m = 9 ∨ m = 10 ∨ m = 11 ∨ m = 12 ∨ m = 13 by omega) with rfl | rfl | rfl | rfl | rfl | rfl | rfl | rfl | rfl | rfl | rfl | rfl | rfl | rfl <;> cases hL : leapb y <;> simp [DB, dm, hL]
/-- a month's last day lies ahead of the next year -/
theorem DB_t {y m : Nat} (h1 : 1 ≤ m) (h2 : m ≤ 12) : DB y m + (dm y m : Int) ≤ (yl y : Int) := by
  rcases (show m = 1 ∨ m = 2 ∨ m = 3 ∨ m = 4 ∨ m = 5 ∨ m = 6 ∨ m = 7 ∨ m = 8 ∨ m = 9 ∨ m = 10 ∨ m = 11 ∨ m = 12 by omega) with rfl | rfl | rfl | rfl | rfl | rfl | rfl | rfl | rfl | rfl | rfl | rfl <;> cases hL : leapb y <;> simp [DB, dm, yl, hL]
theorem me2 {m : Nat} (h : m < 14) : (nI m = 2) ↔ m = 2 := nI_eq (a := m) (b := 2) (by omega) (by omega)
theorem me4 {m : Nat} (h : m < 14) : (nI m = 4) ↔ m = 4 := nI_eq (a := m) (b := 4) (by omega) (by omega)
theorem me6 {m : Nat} (h : m < 14) : (nI m = 6) ↔ m = 6 := nI_eq (a := m) (b := 6) (by omega) (by omega)
theorem me9 {m : Nat} (h : m < 14) : (nI m = 9) ↔ m = 9 := nI_eq (a := m) (b := 9) (by omega) (by omega)
theorem me11 {m : Nat} (h : m < 14) : (nI m = 11) ↔ m = 11 := nI_eq (a := m) (b := 11) (by omega) (by omega)

theorem dX4_isIn_v0 : (cX4_isIn.data.toList.drop 0).take 16 = [30, 32, 148, 155, 0, 14, 30, 22, 4, 148, 157, 0, 7, 4, 167, 0] := by decide +kernel
theorem dX4_isIn_v1 : (cX4_isIn.data.toList.drop 16).take 16 = [4, 3, 172] := by decide +kernel
theorem dX4_isIn_0 : decode cX4_isIn 0 = .ok (.lload_n 0, 1) := dk_30 (dq_lk dX4_isIn_v0 (r := 0) (x := 30) rfl)
theorem dX4_isIn_1 : decode cX4_isIn 1 = .ok (.lload_n 2, 1) := dk_32 (dq_lk dX4_isIn_v0 (r := 1) (x := 32) rfl)
theorem dX4_isIn_2 : decode cX4_isIn 2 = .ok (.lcmp, 1) := dk_148 (dq_lk dX4_isIn_v0 (r := 2) (x := 148) rfl)
theorem dX4_isIn_3 : decode cX4_isIn 3 = .ok (.ifCond .lt 14, 3) := dk_155 (dq_lk dX4_isIn_v0 (r := 3) (x := 155) rfl) (dq_lk dX4_isIn_v0 (r := 4) (x := 0) rfl) (dq_lk dX4_isIn_v0 (r := 5) (x := 14) rfl) (by decide +kernel)
theorem dX4_isIn_6 : decode cX4_isIn 6 = .ok (.lload_n 0, 1) := dk_30 (dq_lk dX4_isIn_v0 (r := 6) (x := 30) rfl)
theorem dX4_isIn_7 : decode cX4_isIn 7 = .ok (.lload 4, 2) := dk_22 (dq_lk dX4_isIn_v0 (r := 7) (x := 22) rfl) (dq_lk dX4_isIn_v0 (r := 8) (x := 4) rfl)
theorem dX4_isIn_9 : decode cX4_isIn 9 = .ok (.lcmp, 1) := dk_148 (dq_lk dX4_isIn_v0 (r := 9) (x := 148) rfl)
theorem dX4_isIn_10 : decode cX4_isIn 10 = .ok (.ifCond .gt 7, 3) := dk_157 (dq_lk dX4_isIn_v0 (r := 10) (x := 157) rfl) (dq_lk dX4_isIn_v0 (r := 11) (x := 0) rfl) (dq_lk dX4_isIn_v0 (r := 12) (x := 7) rfl) (by decide +kernel)
theorem dX4_isIn_13 : decode cX4_isIn 13 = .ok (.iconst 1, 1) := dk_4 (dq_lk dX4_isIn_v0 (r := 13) (x := 4) rfl)
theorem dX4_isIn_14 : decode cX4_isIn 14 = .ok (.goto 4, 3) := dk_167 (dq_lk dX4_isIn_v0 (r := 14) (x := 167) rfl) (dq_lk dX4_isIn_v0 (r := 15) (x := 0) rfl) (dq_lk dX4_isIn_v1 (r := 0) (x := 4) rfl) (by decide +kernel)
theorem dX4_isIn_17 : decode cX4_isIn 17 = .ok (.iconst 0, 1) := dk_3 (dq_lk dX4_isIn_v1 (r := 1) (x := 3) rfl)
theorem dX4_isIn_18 : decode cX4_isIn 18 = .ok (.ireturn, 1) := dk_172 (dq_lk dX4_isIn_v1 (r := 2) (x := 172) rfl)
theorem c_X4_isIn (tys : List (ClassId × FieldType)) (ws : va_W) (p0 p1 p2 : Int64) : mCt tys yX4_isIn cX4_isIn 6 (some .boolean) ⟨0, 0, 0, 0⟩ [.long p0, .long p1, .long p2] ws (fun v ws' => v = some (.int (f_isWithin p0 p1 p2)) ∧ ws' = ws) mNo := by
  refine mCt.of (by decide +kernel) (Nat.le_of_ble_eq_true rfl) (fun X hX hE => ?_)
  have hX : mOK X RX4 cX4_isIn 6 ⟨0, 0, 0, 0⟩ [] tys := hX
  refine r_lload_n hX dX4_isIn_0 rfl rfl (r_lload_n hX dX4_isIn_1 rfl rfl (r_lcmp hX dX4_isIn_2 (r_if_lt (tgt := 17) hX dX4_isIn_3 (by decide) (fun c1 => ?_) (fun c1 => ?_))))
  · refine r_iconst (v := 0) hX dX4_isIn_17 (by decide) (r_zret hX hE dX4_isIn_18 (by decide) (Nat.le_of_ble_eq_true rfl) (Nat.le_of_ble_eq_true rfl) ⟨?_, rfl⟩)
    have h1 : ¬ p1 ≤ p0 := Int64.not_le.mpr (lg_lt.mp c1)
    simp [f_isWithin, h1]
  · have h1 : p1 ≤ p0 := Int64.not_lt.mp (fun h => c1 (lg_lt.mpr h))
    refine r_lload_n hX dX4_isIn_6 rfl rfl (r_lload hX dX4_isIn_7 rfl (r_lcmp hX dX4_isIn_9 (r_if_gt (tgt := 17) hX dX4_isIn_10 (by decide) (fun c2 => ?_) (fun c2 => ?_))))
    · refine r_iconst (v := 0) hX dX4_isIn_17 (by decide) (r_zret hX hE dX4_isIn_18 (by decide) (Nat.le_of_ble_eq_true rfl) (Nat.le_of_ble_eq_true rfl) ⟨?_, rfl⟩)
      have h2 : ¬ p0 ≤ p2 := Int64.not_le.mpr (lg_gt.mp c2)
      simp [f_isWithin, h2]
    · have h2 : p0 ≤ p2 := Int64.not_lt.mp (fun h => c2 (lg_gt.mpr h))
      refine r_iconst (v := 1) hX dX4_isIn_13 (by decide) (r_goto (tgt := 18) hX dX4_isIn_14 (by decide) (r_zret hX hE dX4_isIn_18 (by decide) (Nat.le_of_ble_eq_true rfl) (Nat.le_of_ble_eq_true rfl) ⟨?_, rfl⟩))
      simp [f_isWithin, h1, h2]
theorem dX4_one_v0 : (cX4_one.data.toList.drop 0).take 16 = [26, 153, 0, 7, 4, 167, 0, 4, 3, 172] := by decide +kernel
theorem dX4_one_0 : decode cX4_one 0 = .ok (.iload_n 0, 1) := dk_26 (dq_lk dX4_one_v0 (r := 0) (x := 26) rfl)
theorem dX4_one_1 : decode cX4_one 1 = .ok (.ifCond .eq 7, 3) := dk_153 (dq_lk dX4_one_v0 (r := 1) (x := 153) rfl) (dq_lk dX4_one_v0 (r := 2) (x := 0) rfl) (dq_lk dX4_one_v0 (r := 3) (x := 7) rfl) (by decide +kernel)
theorem dX4_one_4 : decode cX4_one 4 = .ok (.iconst 1, 1) := dk_4 (dq_lk dX4_one_v0 (r := 4) (x := 4) rfl)
theorem dX4_one_5 : decode cX4_one 5 = .ok (.goto 4, 3) := dk_167 (dq_lk dX4_one_v0 (r := 5) (x := 167) rfl) (dq_lk dX4_one_v0 (r := 6) (x := 0) rfl) (dq_lk dX4_one_v0 (r := 7) (x := 4) rfl) (by decide +kernel)
theorem dX4_one_8 : decode cX4_one 8 = .ok (.iconst 0, 1) := dk_3 (dq_lk dX4_one_v0 (r := 8) (x := 3) rfl)
theorem dX4_one_9 : decode cX4_one 9 = .ok (.ireturn, 1) := dk_172 (dq_lk dX4_one_v0 (r := 9) (x := 172) rfl)
theorem dX4_isLeap_v0 : (cX4_isLeap.data.toList.drop 0).take 16 = [26, 17, 1, 144, 112, 153, 0, 16, 26, 7, 112, 154, 0, 14, 26, 16] := by decide +kernel
theorem dX4_isLeap_v1 : (cX4_isLeap.data.toList.drop 16).take 16 = [100, 112, 153, 0, 7, 4, 167, 0, 4, 3, 172] := by decide +kernel
theorem dX4_isLeap_0 : decode cX4_isLeap 0 = .ok (.iload_n 0, 1) := dk_26 (dq_lk dX4_isLeap_v0 (r := 0) (x := 26) rfl)
theorem dX4_isLeap_1 : decode cX4_isLeap 1 = .ok (.sipush 400, 3) := dk_17 (dq_lk dX4_isLeap_v0 (r := 1) (x := 17) rfl) (dq_lk dX4_isLeap_v0 (r := 2) (x := 1) rfl) (dq_lk dX4_isLeap_v0 (r := 3) (x := 144) rfl) (by decide +kernel)
theorem dX4_isLeap_4 : decode cX4_isLeap 4 = .ok (.irem, 1) := dk_112 (dq_lk dX4_isLeap_v0 (r := 4) (x := 112) rfl)
theorem dX4_isLeap_5 : decode cX4_isLeap 5 = .ok (.ifCond .eq 16, 3) := dk_153 (dq_lk dX4_isLeap_v0 (r := 5) (x := 153) rfl) (dq_lk dX4_isLeap_v0 (r := 6) (x := 0) rfl) (dq_lk dX4_isLeap_v0 (r := 7) (x := 16) rfl) (by decide +kernel)
theorem dX4_isLeap_8 : decode cX4_isLeap 8 = .ok (.iload_n 0, 1) := dk_26 (dq_lk dX4_isLeap_v0 (r := 8) (x := 26) rfl)
theorem dX4_isLeap_9 : decode cX4_isLeap 9 = .ok (.iconst 4, 1) := dk_7 (dq_lk dX4_isLeap_v0 (r := 9) (x := 7) rfl)
theorem dX4_isLeap_10 : decode cX4_isLeap 10 = .ok (.irem, 1) := dk_112 (dq_lk dX4_isLeap_v0 (r := 10) (x := 112) rfl)
theorem dX4_isLeap_11 : decode cX4_isLeap 11 = .ok (.ifCond .ne 14, 3) := dk_154 (dq_lk dX4_isLeap_v0 (r := 11) (x := 154) rfl) (dq_lk dX4_isLeap_v0 (r := 12) (x := 0) rfl) (dq_lk dX4_isLeap_v0 (r := 13) (x := 14) rfl) (by decide +kernel)
theorem dX4_isLeap_14 : decode cX4_isLeap 14 = .ok (.iload_n 0, 1) := dk_26 (dq_lk dX4_isLeap_v0 (r := 14) (x := 26) rfl)
theorem dX4_isLeap_15 : decode cX4_isLeap 15 = .ok (.bipush 100, 2) := dk_16 (dq_lk dX4_isLeap_v0 (r := 15) (x := 16) rfl) (dq_lk dX4_isLeap_v1 (r := 0) (x := 100) rfl) (by decide +kernel)
theorem dX4_isLeap_17 : decode cX4_isLeap 17 = .ok (.irem, 1) := dk_112 (dq_lk dX4_isLeap_v1 (r := 1) (x := 112) rfl)
theorem dX4_isLeap_18 : decode cX4_isLeap 18 = .ok (.ifCond .eq 7, 3) := dk_153 (dq_lk dX4_isLeap_v1 (r := 2) (x := 153) rfl) (dq_lk dX4_isLeap_v1 (r := 3) (x := 0) rfl) (dq_lk dX4_isLeap_v1 (r := 4) (x := 7) rfl) (by decide +kernel)
theorem dX4_isLeap_21 : decode cX4_isLeap 21 = .ok (.iconst 1, 1) := dk_4 (dq_lk dX4_isLeap_v1 (r := 5) (x := 4) rfl)
theorem dX4_isLeap_22 : decode cX4_isLeap 22 = .ok (.goto 4, 3) := dk_167 (dq_lk dX4_isLeap_v1 (r := 6) (x := 167) rfl) (dq_lk dX4_isLeap_v1 (r := 7) (x := 0) rfl) (dq_lk dX4_isLeap_v1 (r := 8) (x := 4) rfl) (by decide +kernel)
theorem dX4_isLeap_25 : decode cX4_isLeap 25 = .ok (.iconst 0, 1) := dk_3 (dq_lk dX4_isLeap_v1 (r := 9) (x := 3) rfl)
theorem dX4_isLeap_26 : decode cX4_isLeap 26 = .ok (.ireturn, 1) := dk_172 (dq_lk dX4_isLeap_v1 (r := 10) (x := 172) rfl)
set_option maxHeartbeats 4000000 in
set_option maxRecDepth 20000 in
theorem c_X4_isLeap (tys : List (ClassId × FieldType)) (ws : va_W) (y : Nat) (hy : y < 2100) : mCt tys yX4_isLeap cX4_isLeap 1 (some .boolean) ⟨0, 0, 0, 0⟩ [.int (nI y)] ws (fun v ws' => v = some (.int (if leapb y = true then 1 else 0)) ∧ ws' = ws) mNo := by
  refine mCt.of (by decide +kernel) (Nat.le_of_ble_eq_true rfl) (fun X hX hE => ?_)
  have hX : mOK X RX4 cX4_isLeap 1 ⟨0, 0, 0, 0⟩ [] tys := hX
  refine r_iload_n hX dX4_isLeap_0 rfl rfl (r_sipush (v := 400) hX dX4_isLeap_1 (by decide) (r_irem hX dX4_isLeap_4 (by first | decide | assumption) (r_if_eq (tgt := 21) hX dX4_isLeap_5 (by decide) (fun c1 => ?_) (fun c1 => ?_))))
  · refine r_iconst (v := 1) hX dX4_isLeap_21 (by decide) (r_goto (tgt := 26) hX dX4_isLeap_22 (by decide) (r_zret hX hE dX4_isLeap_26 (by decide) (Nat.le_of_ble_eq_true rfl) (Nat.le_of_ble_eq_true rfl) ⟨?_, rfl⟩))
    simp only [mlp400 hy, mlp4 hy, mlp100 hy] at c1
    simp [leapb, c1]
  · refine r_iload_n hX dX4_isLeap_8 rfl rfl (r_iconst (v := 4) hX dX4_isLeap_9 (by decide) (r_irem hX dX4_isLeap_10 (by first | decide | assumption) (r_if_ne (tgt := 25) hX dX4_isLeap_11 (by decide) (fun c2 => ?_) (fun c2 => ?_))))
    · refine r_iconst (v := 0) hX dX4_isLeap_25 (by decide) (r_zret hX hE dX4_isLeap_26 (by decide) (Nat.le_of_ble_eq_true rfl) (Nat.le_of_ble_eq_true rfl) ⟨?_, rfl⟩)
      simp only [mlp400 hy, mlp4 hy, mlp100 hy] at c1
      simp only [mlp400 hy, mlp4 hy, mlp100 hy] at c2
      simp [leapb, c1, c2]
    · refine r_iload_n hX dX4_isLeap_14 rfl rfl (r_bipush (v := 100) hX dX4_isLeap_15 (by decide) (r_irem hX dX4_isLeap_17 (by first | decide | assumption) (r_if_eq (tgt := 25) hX dX4_isLeap_18 (by decide) (fun c3 => ?_) (fun c3 => ?_))))
      · refine r_iconst (v := 0) hX dX4_isLeap_25 (by decide) (r_zret hX hE dX4_isLeap_26 (by decide) (Nat.le_of_ble_eq_true rfl) (Nat.le_of_ble_eq_true rfl) ⟨?_, rfl⟩)
        simp only [mlp400 hy, mlp4 hy, mlp100 hy] at c1
        simp only [mlp400 hy, mlp4 hy, mlp100 hy] at c2
        simp only [mlp400 hy, mlp4 hy, mlp100 hy] at c3
        simp [leapb, c1, c2, c3]
      · refine r_iconst (v := 1) hX dX4_isLeap_21 (by decide) (r_goto (tgt := 26) hX dX4_isLeap_22 (by decide) (r_zret hX hE dX4_isLeap_26 (by decide) (Nat.le_of_ble_eq_true rfl) (Nat.le_of_ble_eq_true rfl) ⟨?_, rfl⟩))
        simp only [mlp400 hy, mlp4 hy, mlp100 hy] at c1
        simp only [mlp400 hy, mlp4 hy, mlp100 hy] at c2
        simp only [mlp400 hy, mlp4 hy, mlp100 hy] at c3
        simp [leapb, c1, c2, c3]
theorem dX4_daysOf__v0 : (cX4_daysOf_.data.toList.drop 0).take 16 = [26, 184, 0, 44, 153, 0, 9, 17, 1, 110, 167, 0, 6, 17, 1, 109] := by decide +kernel
theorem dX4_daysOf__v1 : (cX4_daysOf_.data.toList.drop 16).take 16 = [172] := by decide +kernel
theorem dX4_daysOf__0 : decode cX4_daysOf_ 0 = .ok (.iload_n 0, 1) := dk_26 (dq_lk dX4_daysOf__v0 (r := 0) (x := 26) rfl)
theorem dX4_daysOf__1 : decode cX4_daysOf_ 1 = .ok (.invokestatic 44, 3) := dk_184 (dq_lk dX4_daysOf__v0 (r := 1) (x := 184) rfl) (dq_lk dX4_daysOf__v0 (r := 2) (x := 0) rfl) (dq_lk dX4_daysOf__v0 (r := 3) (x := 44) rfl)
theorem dX4_daysOf__4 : decode cX4_daysOf_ 4 = .ok (.ifCond .eq 9, 3) := dk_153 (dq_lk dX4_daysOf__v0 (r := 4) (x := 153) rfl) (dq_lk dX4_daysOf__v0 (r := 5) (x := 0) rfl) (dq_lk dX4_daysOf__v0 (r := 6) (x := 9) rfl) (by decide +kernel)
theorem dX4_daysOf__7 : decode cX4_daysOf_ 7 = .ok (.sipush 366, 3) := dk_17 (dq_lk dX4_daysOf__v0 (r := 7) (x := 17) rfl) (dq_lk dX4_daysOf__v0 (r := 8) (x := 1) rfl) (dq_lk dX4_daysOf__v0 (r := 9) (x := 110) rfl) (by decide +kernel)
theorem dX4_daysOf__10 : decode cX4_daysOf_ 10 = .ok (.goto 6, 3) := dk_167 (dq_lk dX4_daysOf__v0 (r := 10) (x := 167) rfl) (dq_lk dX4_daysOf__v0 (r := 11) (x := 0) rfl) (dq_lk dX4_daysOf__v0 (r := 12) (x := 6) rfl) (by decide +kernel)
theorem dX4_daysOf__13 : decode cX4_daysOf_ 13 = .ok (.sipush 365, 3) := dk_17 (dq_lk dX4_daysOf__v0 (r := 13) (x := 17) rfl) (dq_lk dX4_daysOf__v0 (r := 14) (x := 1) rfl) (dq_lk dX4_daysOf__v0 (r := 15) (x := 109) rfl) (by decide +kernel)
theorem dX4_daysOf__16 : decode cX4_daysOf_ 16 = .ok (.ireturn, 1) := dk_172 (dq_lk dX4_daysOf__v1 (r := 0) (x := 172) rfl)
set_option maxHeartbeats 4000000 in
set_option maxRecDepth 20000 in
theorem c_X4_daysOf_ (tys : List (ClassId × FieldType)) (ws : va_W) (y : Nat) (hy : y < 2100) : mCt tys yX4_daysOf_ cX4_daysOf_ 1 (some .int) ⟨1, 0, 0, 20⟩ [.int (nI y)] ws (fun v ws' => v = some (.int (nI (yl y))) ∧ ws' = ws) mNo := by
  refine mCt.of (by decide +kernel) (Nat.le_of_ble_eq_true rfl) (fun X hX hE => ?_)
  have hX : mOK X RX4 cX4_daysOf_ 1 ⟨1, 0, 0, 20⟩ [] tys := hX
  refine r_iload_n hX dX4_daysOf__0 rfl rfl (r_callS hX (c_X4_isLeap _ _ y hy) ks_X4_44 rfl rfl (Nat.le_of_ble_eq_true rfl) ⟨(Nat.le_of_ble_eq_true rfl), (Nat.le_of_ble_eq_true rfl)⟩ ⟨(Nat.le_of_ble_eq_true rfl), (Nat.le_of_ble_eq_true rfl)⟩ dX4_daysOf__1 (fun _ _ z => False.elim z) (fun v9 ws9 h1 => ?_))
  obtain ⟨rfl, hw9⟩ := h1
  subst ws9
  dsimp only [mPush]
  refine r_if_eq (tgt := 13) hX dX4_daysOf__4 (by decide) (fun c3 => ?_) (fun c3 => ?_)
  · refine r_sipush (v := 365) hX dX4_daysOf__13 (by decide) (r_iret hX hE dX4_daysOf__16 (Nat.le_of_ble_eq_true rfl) (Nat.le_of_ble_eq_true rfl) ⟨?_, rfl⟩)
    cases hL : leapb y <;> simp [hL] at c3 <;> simp [yl, hL, ] <;> first | done | decide
  · refine r_sipush (v := 366) hX dX4_daysOf__7 (by decide) (r_goto (tgt := 16) hX dX4_daysOf__10 (by decide) (r_iret hX hE dX4_daysOf__16 (Nat.le_of_ble_eq_true rfl) (Nat.le_of_ble_eq_true rfl) ⟨?_, rfl⟩))
    cases hL : leapb y <;> simp [hL] at c3 <;> simp [yl, hL, ] <;> first | done | decide
theorem dX4_daysOf_v0 : (cX4_daysOf.data.toList.drop 0).take 16 = [27, 5, 160, 0, 18, 26, 184, 0, 44, 153, 0, 8, 16, 29, 167, 0] := by decide +kernel
theorem dX4_daysOf_v1 : (cX4_daysOf.data.toList.drop 16).take 16 = [5, 16, 28, 172, 27, 7, 159, 0, 21, 27, 16, 6, 159, 0, 15, 27] := by decide +kernel
theorem dX4_daysOf_v2 : (cX4_daysOf.data.toList.drop 32).take 16 = [16, 9, 159, 0, 9, 27, 16, 11, 160, 0, 8, 16, 30, 167, 0, 5] := by decide +kernel
theorem dX4_daysOf_v3 : (cX4_daysOf.data.toList.drop 48).take 16 = [16, 31, 172] := by decide +kernel
theorem dX4_daysOf_0 : decode cX4_daysOf 0 = .ok (.iload_n 1, 1) := dk_27 (dq_lk dX4_daysOf_v0 (r := 0) (x := 27) rfl)
theorem dX4_daysOf_1 : decode cX4_daysOf 1 = .ok (.iconst 2, 1) := dk_5 (dq_lk dX4_daysOf_v0 (r := 1) (x := 5) rfl)
theorem dX4_daysOf_2 : decode cX4_daysOf 2 = .ok (.if_icmp .ne 18, 3) := dk_160 (dq_lk dX4_daysOf_v0 (r := 2) (x := 160) rfl) (dq_lk dX4_daysOf_v0 (r := 3) (x := 0) rfl) (dq_lk dX4_daysOf_v0 (r := 4) (x := 18) rfl) (by decide +kernel)
theorem dX4_daysOf_5 : decode cX4_daysOf 5 = .ok (.iload_n 0, 1) := dk_26 (dq_lk dX4_daysOf_v0 (r := 5) (x := 26) rfl)
theorem dX4_daysOf_6 : decode cX4_daysOf 6 = .ok (.invokestatic 44, 3) := dk_184 (dq_lk dX4_daysOf_v0 (r := 6) (x := 184) rfl) (dq_lk dX4_daysOf_v0 (r := 7) (x := 0) rfl) (dq_lk dX4_daysOf_v0 (r := 8) (x := 44) rfl)
theorem dX4_daysOf_9 : decode cX4_daysOf 9 = .ok (.ifCond .eq 8, 3) := dk_153 (dq_lk dX4_daysOf_v0 (r := 9) (x := 153) rfl) (dq_lk dX4_daysOf_v0 (r := 10) (x := 0) rfl) (dq_lk dX4_daysOf_v0 (r := 11) (x := 8) rfl) (by decide +kernel)
theorem dX4_daysOf_12 : decode cX4_daysOf 12 = .ok (.bipush 29, 2) := dk_16 (dq_lk dX4_daysOf_v0 (r := 12) (x := 16) rfl) (dq_lk dX4_daysOf_v0 (r := 13) (x := 29) rfl) (by decide +kernel)
theorem dX4_daysOf_14 : decode cX4_daysOf 14 = .ok (.goto 5, 3) := dk_167 (dq_lk dX4_daysOf_v0 (r := 14) (x := 167) rfl) (dq_lk dX4_daysOf_v0 (r := 15) (x := 0) rfl) (dq_lk dX4_daysOf_v1 (r := 0) (x := 5) rfl) (by decide +kernel)
theorem dX4_daysOf_17 : decode cX4_daysOf 17 = .ok (.bipush 28, 2) := dk_16 (dq_lk dX4_daysOf_v1 (r := 1) (x := 16) rfl) (dq_lk dX4_daysOf_v1 (r := 2) (x := 28) rfl) (by decide +kernel)
theorem dX4_daysOf_19 : decode cX4_daysOf 19 = .ok (.ireturn, 1) := dk_172 (dq_lk dX4_daysOf_v1 (r := 3) (x := 172) rfl)
theorem dX4_daysOf_20 : decode cX4_daysOf 20 = .ok (.iload_n 1, 1) := dk_27 (dq_lk dX4_daysOf_v1 (r := 4) (x := 27) rfl)
theorem dX4_daysOf_21 : decode cX4_daysOf 21 = .ok (.iconst 4, 1) := dk_7 (dq_lk dX4_daysOf_v1 (r := 5) (x := 7) rfl)
theorem dX4_daysOf_22 : decode cX4_daysOf 22 = .ok (.if_icmp .eq 21, 3) := dk_159 (dq_lk dX4_daysOf_v1 (r := 6) (x := 159) rfl) (dq_lk dX4_daysOf_v1 (r := 7) (x := 0) rfl) (dq_lk dX4_daysOf_v1 (r := 8) (x := 21) rfl) (by decide +kernel)
theorem dX4_daysOf_25 : decode cX4_daysOf 25 = .ok (.iload_n 1, 1) := dk_27 (dq_lk dX4_daysOf_v1 (r := 9) (x := 27) rfl)
theorem dX4_daysOf_26 : decode cX4_daysOf 26 = .ok (.bipush 6, 2) := dk_16 (dq_lk dX4_daysOf_v1 (r := 10) (x := 16) rfl) (dq_lk dX4_daysOf_v1 (r := 11) (x := 6) rfl) (by decide +kernel)
theorem dX4_daysOf_28 : decode cX4_daysOf 28 = .ok (.if_icmp .eq 15, 3) := dk_159 (dq_lk dX4_daysOf_v1 (r := 12) (x := 159) rfl) (dq_lk dX4_daysOf_v1 (r := 13) (x := 0) rfl) (dq_lk dX4_daysOf_v1 (r := 14) (x := 15) rfl) (by decide +kernel)
theorem dX4_daysOf_31 : decode cX4_daysOf 31 = .ok (.iload_n 1, 1) := dk_27 (dq_lk dX4_daysOf_v1 (r := 15) (x := 27) rfl)
theorem dX4_daysOf_32 : decode cX4_daysOf 32 = .ok (.bipush 9, 2) := dk_16 (dq_lk dX4_daysOf_v2 (r := 0) (x := 16) rfl) (dq_lk dX4_daysOf_v2 (r := 1) (x := 9) rfl) (by decide +kernel)
theorem dX4_daysOf_34 : decode cX4_daysOf 34 = .ok (.if_icmp .eq 9, 3) := dk_159 (dq_lk dX4_daysOf_v2 (r := 2) (x := 159) rfl) (dq_lk dX4_daysOf_v2 (r := 3) (x := 0) rfl) (dq_lk dX4_daysOf_v2 (r := 4) (x := 9) rfl) (by decide +kernel)
theorem dX4_daysOf_37 : decode cX4_daysOf 37 = .ok (.iload_n 1, 1) := dk_27 (dq_lk dX4_daysOf_v2 (r := 5) (x := 27) rfl)
theorem dX4_daysOf_38 : decode cX4_daysOf 38 = .ok (.bipush 11, 2) := dk_16 (dq_lk dX4_daysOf_v2 (r := 6) (x := 16) rfl) (dq_lk dX4_daysOf_v2 (r := 7) (x := 11) rfl) (by decide +kernel)
theorem dX4_daysOf_40 : decode cX4_daysOf 40 = .ok (.if_icmp .ne 8, 3) := dk_160 (dq_lk dX4_daysOf_v2 (r := 8) (x := 160) rfl) (dq_lk dX4_daysOf_v2 (r := 9) (x := 0) rfl) (dq_lk dX4_daysOf_v2 (r := 10) (x := 8) rfl) (by decide +kernel)
theorem dX4_daysOf_43 : decode cX4_daysOf 43 = .ok (.bipush 30, 2) := dk_16 (dq_lk dX4_daysOf_v2 (r := 11) (x := 16) rfl) (dq_lk dX4_daysOf_v2 (r := 12) (x := 30) rfl) (by decide +kernel)
theorem dX4_daysOf_45 : decode cX4_daysOf 45 = .ok (.goto 5, 3) := dk_167 (dq_lk dX4_daysOf_v2 (r := 13) (x := 167) rfl) (dq_lk dX4_daysOf_v2 (r := 14) (x := 0) rfl) (dq_lk dX4_daysOf_v2 (r := 15) (x := 5) rfl) (by decide +kernel)
theorem dX4_daysOf_48 : decode cX4_daysOf 48 = .ok (.bipush 31, 2) := dk_16 (dq_lk dX4_daysOf_v3 (r := 0) (x := 16) rfl) (dq_lk dX4_daysOf_v3 (r := 1) (x := 31) rfl) (by decide +kernel)
theorem dX4_daysOf_50 : decode cX4_daysOf 50 = .ok (.ireturn, 1) := dk_172 (dq_lk dX4_daysOf_v3 (r := 2) (x := 172) rfl)
set_option maxHeartbeats 4000000 in
set_option maxRecDepth 20000 in
theorem c_X4_daysOf (tys : List (ClassId × FieldType)) (ws : va_W) (y : Nat) (hy : y < 2100) (m : Nat) (hm : m < 14) : mCt tys yX4_daysOf cX4_daysOf 2 (some .int) ⟨1, 0, 0, 20⟩ [.int (nI y), .int (nI m)] ws (fun v ws' => v = some (.int (nI (dm y m))) ∧ ws' = ws) mNo := by
  refine mCt.of (by decide +kernel) (Nat.le_of_ble_eq_true rfl) (fun X hX hE => ?_)
  have hX : mOK X RX4 cX4_daysOf 2 ⟨1, 0, 0, 20⟩ [] tys := hX
  refine r_iload_n hX dX4_daysOf_0 rfl rfl (r_iconst (v := 2) hX dX4_daysOf_1 (by decide) (r_icmp_ne (tgt := 20) hX dX4_daysOf_2 (by decide) (fun c1 => ?_) (fun c1 => ?_)))
  · refine r_iload_n hX dX4_daysOf_20 rfl rfl (r_iconst (v := 4) hX dX4_daysOf_21 (by decide) (r_icmp_eq (tgt := 43) hX dX4_daysOf_22 (by decide) (fun c2 => ?_) (fun c2 => ?_)))
    · refine r_bipush (v := 30) hX dX4_daysOf_43 (by decide) (r_goto (tgt := 50) hX dX4_daysOf_45 (by decide) (r_iret hX hE dX4_daysOf_50 (Nat.le_of_ble_eq_true rfl) (Nat.le_of_ble_eq_true rfl) ⟨?_, rfl⟩))
      clear hX hE
      try simp only [me2 hm, me4 hm, me6 hm, me9 hm, me11 hm] at c1
      try simp only [me2 hm, me4 hm, me6 hm, me9 hm, me11 hm] at c2
      cases hL : leapb y <;> simp_all [dm] <;> first | done | decide
    · refine r_iload_n hX dX4_daysOf_25 rfl rfl (r_bipush (v := 6) hX dX4_daysOf_26 (by decide) (r_icmp_eq (tgt := 43) hX dX4_daysOf_28 (by decide) (fun c3 => ?_) (fun c3 => ?_)))
      · refine r_bipush (v := 30) hX dX4_daysOf_43 (by decide) (r_goto (tgt := 50) hX dX4_daysOf_45 (by decide) (r_iret hX hE dX4_daysOf_50 (Nat.le_of_ble_eq_true rfl) (Nat.le_of_ble_eq_true rfl) ⟨?_, rfl⟩))
        clear hX hE
        try simp only [me2 hm, me4 hm, me6 hm, me9 hm, me11 hm] at c1
        try simp only [me2 hm, me4 hm, me6 hm, me9 hm, me11 hm] at c2
        try simp only [me2 hm, me4 hm, me6 hm, me9 hm, me11 hm] at c3
        cases hL : leapb y <;> simp_all [dm] <;> first | done | decide
      · refine r_iload_n hX dX4_daysOf_31 rfl rfl (r_bipush (v := 9) hX dX4_daysOf_32 (by decide) (r_icmp_eq (tgt := 43) hX dX4_daysOf_34 (by decide) (fun c4 => ?_) (fun c4 => ?_)))
        · refine r_bipush (v := 30) hX dX4_daysOf_43 (by decide) (r_goto (tgt := 50) hX dX4_daysOf_45 (by decide) (r_iret hX hE dX4_daysOf_50 (Nat.le_of_ble_eq_true rfl) (Nat.le_of_ble_eq_true rfl) ⟨?_, rfl⟩))
          clear hX hE
          try simp only [me2 hm, me4 hm, me6 hm, me9 hm, me11 hm] at c1
          try simp only [me2 hm, me4 hm, me6 hm, me9 hm, me11 hm] at c2
          try simp only [me2 hm, me4 hm, me6 hm, me9 hm, me11 hm] at c3
          try simp only [me2 hm, me4 hm, me6 hm, me9 hm, me11 hm] at c4
          cases hL : leapb y <;> simp_all [dm] <;> first | done | decide
        · refine r_iload_n hX dX4_daysOf_37 rfl rfl (r_bipush (v := 11) hX dX4_daysOf_38 (by decide) (r_icmp_ne (tgt := 48) hX dX4_daysOf_40 (by decide) (fun c5 => ?_) (fun c5 => ?_)))
          · refine r_bipush (v := 31) hX dX4_daysOf_48 (by decide) (r_iret hX hE dX4_daysOf_50 (Nat.le_of_ble_eq_true rfl) (Nat.le_of_ble_eq_true rfl) ⟨?_, rfl⟩)
            clear hX hE
            try simp only [me2 hm, me4 hm, me6 hm, me9 hm, me11 hm] at c1
            try simp only [me2 hm, me4 hm, me6 hm, me9 hm, me11 hm] at c2
            try simp only [me2 hm, me4 hm, me6 hm, me9 hm, me11 hm] at c3
            try simp only [me2 hm, me4 hm, me6 hm, me9 hm, me11 hm] at c4
            try simp only [me2 hm, me4 hm, me6 hm, me9 hm, me11 hm] at c5
            cases hL : leapb y <;> simp_all [dm] <;> first | done | decide
          · refine r_bipush (v := 30) hX dX4_daysOf_43 (by decide) (r_goto (tgt := 50) hX dX4_daysOf_45 (by decide) (r_iret hX hE dX4_daysOf_50 (Nat.le_of_ble_eq_true rfl) (Nat.le_of_ble_eq_true rfl) ⟨?_, rfl⟩))
            clear hX hE
            try simp only [me2 hm, me4 hm, me6 hm, me9 hm, me11 hm] at c1
            try simp only [me2 hm, me4 hm, me6 hm, me9 hm, me11 hm] at c2
            try simp only [me2 hm, me4 hm, me6 hm, me9 hm, me11 hm] at c3
            try simp only [me2 hm, me4 hm, me6 hm, me9 hm, me11 hm] at c4
            try simp only [me2 hm, me4 hm, me6 hm, me9 hm, me11 hm] at c5
            cases hL : leapb y <;> simp_all [dm] <;> first | done | decide
  · refine r_iload_n hX dX4_daysOf_5 rfl rfl (r_callS hX (c_X4_isLeap _ _ y hy) ks_X4_44 rfl rfl (Nat.le_of_ble_eq_true rfl) ⟨(Nat.le_of_ble_eq_true rfl), (Nat.le_of_ble_eq_true rfl)⟩ ⟨(Nat.le_of_ble_eq_true rfl), (Nat.le_of_ble_eq_true rfl)⟩ dX4_daysOf_6 (fun _ _ z => False.elim z) (fun v9 ws9 h6 => ?_))
    obtain ⟨rfl, hw9⟩ := h6
    subst ws9
    dsimp only [mPush]
    refine r_if_eq (tgt := 17) hX dX4_daysOf_9 (by decide) (fun c8 => ?_) (fun c8 => ?_)
    · refine r_bipush (v := 28) hX dX4_daysOf_17 (by decide) (r_iret hX hE dX4_daysOf_19 (Nat.le_of_ble_eq_true rfl) (Nat.le_of_ble_eq_true rfl) ⟨?_, rfl⟩)
      clear hX hE
      try simp only [me2 hm, me4 hm, me6 hm, me9 hm, me11 hm] at c1
      try simp only [me2 hm, me4 hm, me6 hm, me9 hm, me11 hm] at c8
      cases hL : leapb y <;> simp_all [dm] <;> first | done | decide
    · refine r_bipush (v := 29) hX dX4_daysOf_12 (by decide) (r_goto (tgt := 19) hX dX4_daysOf_14 (by decide) (r_iret hX hE dX4_daysOf_19 (Nat.le_of_ble_eq_true rfl) (Nat.le_of_ble_eq_true rfl) ⟨?_, rfl⟩))
      clear hX hE
      try simp only [me2 hm, me4 hm, me6 hm, me9 hm, me11 hm] at c1
      try simp only [me2 hm, me4 hm, me6 hm, me9 hm, me11 hm] at c8
      cases hL : leapb y <;> simp_all [dm] <;> first | done | decide
theorem dX4_firstOf_v0 : (cX4_firstOf.data.toList.drop 0).take 16 = [3, 60, 17, 7, 178, 61, 28, 26, 162, 0, 16, 27, 28, 184, 0, 48] := by decide +kernel
theorem dX4_firstOf_v1 : (cX4_firstOf.data.toList.drop 16).take 16 = [96, 60, 132, 2, 1, 167, 255, 241, 26, 61, 28, 17, 7, 178, 162, 0] := by decide +kernel
theorem dX4_firstOf_v2 : (cX4_firstOf.data.toList.drop 32).take 16 = [16, 27, 28, 184, 0, 48, 100, 60, 132, 2, 1, 167, 255, 239, 27, 172] := by decide +kernel
theorem dX4_firstOf_0 : decode cX4_firstOf 0 = .ok (.iconst 0, 1) := dk_3 (dq_lk dX4_firstOf_v0 (r := 0) (x := 3) rfl)
theorem dX4_firstOf_1 : decode cX4_firstOf 1 = .ok (.istore_n 1, 1) := dk_60 (dq_lk dX4_firstOf_v0 (r := 1) (x := 60) rfl)
theorem dX4_firstOf_2 : decode cX4_firstOf 2 = .ok (.sipush 1970, 3) := dk_17 (dq_lk dX4_firstOf_v0 (r := 2) (x := 17) rfl) (dq_lk dX4_firstOf_v0 (r := 3) (x := 7) rfl) (dq_lk dX4_firstOf_v0 (r := 4) (x := 178) rfl) (by decide +kernel)
theorem dX4_firstOf_5 : decode cX4_firstOf 5 = .ok (.istore_n 2, 1) := dk_61 (dq_lk dX4_firstOf_v0 (r := 5) (x := 61) rfl)
theorem dX4_firstOf_6 : decode cX4_firstOf 6 = .ok (.iload_n 2, 1) := dk_28 (dq_lk dX4_firstOf_v0 (r := 6) (x := 28) rfl)
theorem dX4_firstOf_7 : decode cX4_firstOf 7 = .ok (.iload_n 0, 1) := dk_26 (dq_lk dX4_firstOf_v0 (r := 7) (x := 26) rfl)
theorem dX4_firstOf_8 : decode cX4_firstOf 8 = .ok (.if_icmp .ge 16, 3) := dk_162 (dq_lk dX4_firstOf_v0 (r := 8) (x := 162) rfl) (dq_lk dX4_firstOf_v0 (r := 9) (x := 0) rfl) (dq_lk dX4_firstOf_v0 (r := 10) (x := 16) rfl) (by decide +kernel)
theorem dX4_firstOf_11 : decode cX4_firstOf 11 = .ok (.iload_n 1, 1) := dk_27 (dq_lk dX4_firstOf_v0 (r := 11) (x := 27) rfl)
theorem dX4_firstOf_12 : decode cX4_firstOf 12 = .ok (.iload_n 2, 1) := dk_28 (dq_lk dX4_firstOf_v0 (r := 12) (x := 28) rfl)
theorem dX4_firstOf_13 : decode cX4_firstOf 13 = .ok (.invokestatic 48, 3) := dk_184 (dq_lk dX4_firstOf_v0 (r := 13) (x := 184) rfl) (dq_lk dX4_firstOf_v0 (r := 14) (x := 0) rfl) (dq_lk dX4_firstOf_v0 (r := 15) (x := 48) rfl)
theorem dX4_firstOf_16 : decode cX4_firstOf 16 = .ok (.iadd, 1) := dk_96 (dq_lk dX4_firstOf_v1 (r := 0) (x := 96) rfl)
theorem dX4_firstOf_17 : decode cX4_firstOf 17 = .ok (.istore_n 1, 1) := dk_60 (dq_lk dX4_firstOf_v1 (r := 1) (x := 60) rfl)
theorem dX4_firstOf_18 : decode cX4_firstOf 18 = .ok (.iinc 2 1, 3) := dk_132 (dq_lk dX4_firstOf_v1 (r := 2) (x := 132) rfl) (dq_lk dX4_firstOf_v1 (r := 3) (x := 2) rfl) (dq_lk dX4_firstOf_v1 (r := 4) (x := 1) rfl) (by decide +kernel)
theorem dX4_firstOf_21 : decode cX4_firstOf 21 = .ok (.goto (-15), 3) := dk_167 (dq_lk dX4_firstOf_v1 (r := 5) (x := 167) rfl) (dq_lk dX4_firstOf_v1 (r := 6) (x := 255) rfl) (dq_lk dX4_firstOf_v1 (r := 7) (x := 241) rfl) (by decide +kernel)
theorem dX4_firstOf_24 : decode cX4_firstOf 24 = .ok (.iload_n 0, 1) := dk_26 (dq_lk dX4_firstOf_v1 (r := 8) (x := 26) rfl)
theorem dX4_firstOf_25 : decode cX4_firstOf 25 = .ok (.istore_n 2, 1) := dk_61 (dq_lk dX4_firstOf_v1 (r := 9) (x := 61) rfl)
theorem dX4_firstOf_26 : decode cX4_firstOf 26 = .ok (.iload_n 2, 1) := dk_28 (dq_lk dX4_firstOf_v1 (r := 10) (x := 28) rfl)
theorem dX4_firstOf_27 : decode cX4_firstOf 27 = .ok (.sipush 1970, 3) := dk_17 (dq_lk dX4_firstOf_v1 (r := 11) (x := 17) rfl) (dq_lk dX4_firstOf_v1 (r := 12) (x := 7) rfl) (dq_lk dX4_firstOf_v1 (r := 13) (x := 178) rfl) (by decide +kernel)
theorem dX4_firstOf_30 : decode cX4_firstOf 30 = .ok (.if_icmp .ge 16, 3) := dk_162 (dq_lk dX4_firstOf_v1 (r := 14) (x := 162) rfl) (dq_lk dX4_firstOf_v1 (r := 15) (x := 0) rfl) (dq_lk dX4_firstOf_v2 (r := 0) (x := 16) rfl) (by decide +kernel)
theorem dX4_firstOf_33 : decode cX4_firstOf 33 = .ok (.iload_n 1, 1) := dk_27 (dq_lk dX4_firstOf_v2 (r := 1) (x := 27) rfl)
theorem dX4_firstOf_34 : decode cX4_firstOf 34 = .ok (.iload_n 2, 1) := dk_28 (dq_lk dX4_firstOf_v2 (r := 2) (x := 28) rfl)
theorem dX4_firstOf_35 : decode cX4_firstOf 35 = .ok (.invokestatic 48, 3) := dk_184 (dq_lk dX4_firstOf_v2 (r := 3) (x := 184) rfl) (dq_lk dX4_firstOf_v2 (r := 4) (x := 0) rfl) (dq_lk dX4_firstOf_v2 (r := 5) (x := 48) rfl)
theorem dX4_firstOf_38 : decode cX4_firstOf 38 = .ok (.isub, 1) := dk_100 (dq_lk dX4_firstOf_v2 (r := 6) (x := 100) rfl)
theorem dX4_firstOf_39 : decode cX4_firstOf 39 = .ok (.istore_n 1, 1) := dk_60 (dq_lk dX4_firstOf_v2 (r := 7) (x := 60) rfl)
theorem dX4_firstOf_40 : decode cX4_firstOf 40 = .ok (.iinc 2 1, 3) := dk_132 (dq_lk dX4_firstOf_v2 (r := 8) (x := 132) rfl) (dq_lk dX4_firstOf_v2 (r := 9) (x := 2) rfl) (dq_lk dX4_firstOf_v2 (r := 10) (x := 1) rfl) (by decide +kernel)
theorem dX4_firstOf_43 : decode cX4_firstOf 43 = .ok (.goto (-17), 3) := dk_167 (dq_lk dX4_firstOf_v2 (r := 11) (x := 167) rfl) (dq_lk dX4_firstOf_v2 (r := 12) (x := 255) rfl) (dq_lk dX4_firstOf_v2 (r := 13) (x := 239) rfl) (by decide +kernel)
theorem dX4_firstOf_46 : decode cX4_firstOf 46 = .ok (.iload_n 1, 1) := dk_27 (dq_lk dX4_firstOf_v2 (r := 14) (x := 27) rfl)
theorem dX4_firstOf_47 : decode cX4_firstOf 47 = .ok (.ireturn, 1) := dk_172 (dq_lk dX4_firstOf_v2 (r := 15) (x := 172) rfl)
theorem dX4_dayOf_v0 : (cX4_dayOf.data.toList.drop 0).take 16 = [26, 184, 0, 52, 28, 96, 4, 100, 62, 4, 54, 4, 21, 4, 27, 162] := by decide +kernel
theorem dX4_dayOf_v1 : (cX4_dayOf.data.toList.drop 16).take 16 = [0, 18, 29, 26, 21, 4, 184, 0, 55, 96, 62, 132, 4, 1, 167, 255] := by decide +kernel
theorem dX4_dayOf_v2 : (cX4_dayOf.data.toList.drop 32).take 16 = [238, 29, 172] := by decide +kernel
theorem dX4_dayOf_0 : decode cX4_dayOf 0 = .ok (.iload_n 0, 1) := dk_26 (dq_lk dX4_dayOf_v0 (r := 0) (x := 26) rfl)
theorem dX4_dayOf_1 : decode cX4_dayOf 1 = .ok (.invokestatic 52, 3) := dk_184 (dq_lk dX4_dayOf_v0 (r := 1) (x := 184) rfl) (dq_lk dX4_dayOf_v0 (r := 2) (x := 0) rfl) (dq_lk dX4_dayOf_v0 (r := 3) (x := 52) rfl)
theorem dX4_dayOf_4 : decode cX4_dayOf 4 = .ok (.iload_n 2, 1) := dk_28 (dq_lk dX4_dayOf_v0 (r := 4) (x := 28) rfl)
theorem dX4_dayOf_5 : decode cX4_dayOf 5 = .ok (.iadd, 1) := dk_96 (dq_lk dX4_dayOf_v0 (r := 5) (x := 96) rfl)
theorem dX4_dayOf_6 : decode cX4_dayOf 6 = .ok (.iconst 1, 1) := dk_4 (dq_lk dX4_dayOf_v0 (r := 6) (x := 4) rfl)
theorem dX4_dayOf_7 : decode cX4_dayOf 7 = .ok (.isub, 1) := dk_100 (dq_lk dX4_dayOf_v0 (r := 7) (x := 100) rfl)
theorem dX4_dayOf_8 : decode cX4_dayOf 8 = .ok (.istore_n 3, 1) := dk_62 (dq_lk dX4_dayOf_v0 (r := 8) (x := 62) rfl)
theorem dX4_dayOf_9 : decode cX4_dayOf 9 = .ok (.iconst 1, 1) := dk_4 (dq_lk dX4_dayOf_v0 (r := 9) (x := 4) rfl)
theorem dX4_dayOf_10 : decode cX4_dayOf 10 = .ok (.istore 4, 2) := dk_54 (dq_lk dX4_dayOf_v0 (r := 10) (x := 54) rfl) (dq_lk dX4_dayOf_v0 (r := 11) (x := 4) rfl)
theorem dX4_dayOf_12 : decode cX4_dayOf 12 = .ok (.iload 4, 2) := dk_21 (dq_lk dX4_dayOf_v0 (r := 12) (x := 21) rfl) (dq_lk dX4_dayOf_v0 (r := 13) (x := 4) rfl)
theorem dX4_dayOf_14 : decode cX4_dayOf 14 = .ok (.iload_n 1, 1) := dk_27 (dq_lk dX4_dayOf_v0 (r := 14) (x := 27) rfl)
theorem dX4_dayOf_15 : decode cX4_dayOf 15 = .ok (.if_icmp .ge 18, 3) := dk_162 (dq_lk dX4_dayOf_v0 (r := 15) (x := 162) rfl) (dq_lk dX4_dayOf_v1 (r := 0) (x := 0) rfl) (dq_lk dX4_dayOf_v1 (r := 1) (x := 18) rfl) (by decide +kernel)
theorem dX4_dayOf_18 : decode cX4_dayOf 18 = .ok (.iload_n 3, 1) := dk_29 (dq_lk dX4_dayOf_v1 (r := 2) (x := 29) rfl)
theorem dX4_dayOf_19 : decode cX4_dayOf 19 = .ok (.iload_n 0, 1) := dk_26 (dq_lk dX4_dayOf_v1 (r := 3) (x := 26) rfl)
theorem dX4_dayOf_20 : decode cX4_dayOf 20 = .ok (.iload 4, 2) := dk_21 (dq_lk dX4_dayOf_v1 (r := 4) (x := 21) rfl) (dq_lk dX4_dayOf_v1 (r := 5) (x := 4) rfl)
theorem dX4_dayOf_22 : decode cX4_dayOf 22 = .ok (.invokestatic 55, 3) := dk_184 (dq_lk dX4_dayOf_v1 (r := 6) (x := 184) rfl) (dq_lk dX4_dayOf_v1 (r := 7) (x := 0) rfl) (dq_lk dX4_dayOf_v1 (r := 8) (x := 55) rfl)
theorem dX4_dayOf_25 : decode cX4_dayOf 25 = .ok (.iadd, 1) := dk_96 (dq_lk dX4_dayOf_v1 (r := 9) (x := 96) rfl)
theorem dX4_dayOf_26 : decode cX4_dayOf 26 = .ok (.istore_n 3, 1) := dk_62 (dq_lk dX4_dayOf_v1 (r := 10) (x := 62) rfl)
theorem dX4_dayOf_27 : decode cX4_dayOf 27 = .ok (.iinc 4 1, 3) := dk_132 (dq_lk dX4_dayOf_v1 (r := 11) (x := 132) rfl) (dq_lk dX4_dayOf_v1 (r := 12) (x := 4) rfl) (dq_lk dX4_dayOf_v1 (r := 13) (x := 1) rfl) (by decide +kernel)
theorem dX4_dayOf_30 : decode cX4_dayOf 30 = .ok (.goto (-18), 3) := dk_167 (dq_lk dX4_dayOf_v1 (r := 14) (x := 167) rfl) (dq_lk dX4_dayOf_v1 (r := 15) (x := 255) rfl) (dq_lk dX4_dayOf_v2 (r := 0) (x := 238) rfl) (by decide +kernel)
theorem dX4_dayOf_33 : decode cX4_dayOf 33 = .ok (.iload_n 3, 1) := dk_29 (dq_lk dX4_dayOf_v2 (r := 1) (x := 29) rfl)
theorem dX4_dayOf_34 : decode cX4_dayOf 34 = .ok (.ireturn, 1) := dk_172 (dq_lk dX4_dayOf_v2 (r := 2) (x := 172) rfl)
theorem dX4_yearOf_v0 : (cX4_yearOf.data.toList.drop 0).take 16 = [17, 7, 118, 60, 17, 7, 119, 184, 0, 52, 61, 28, 26, 163, 0, 16] := by decide +kernel
theorem dX4_yearOf_v1 : (cX4_yearOf.data.toList.drop 16).take 16 = [132, 1, 1, 28, 27, 184, 0, 48, 96, 61, 167, 255, 241, 27, 172] := by decide +kernel
theorem dX4_yearOf_0 : decode cX4_yearOf 0 = .ok (.sipush 1910, 3) := dk_17 (dq_lk dX4_yearOf_v0 (r := 0) (x := 17) rfl) (dq_lk dX4_yearOf_v0 (r := 1) (x := 7) rfl) (dq_lk dX4_yearOf_v0 (r := 2) (x := 118) rfl) (by decide +kernel)
theorem dX4_yearOf_3 : decode cX4_yearOf 3 = .ok (.istore_n 1, 1) := dk_60 (dq_lk dX4_yearOf_v0 (r := 3) (x := 60) rfl)
theorem dX4_yearOf_4 : decode cX4_yearOf 4 = .ok (.sipush 1911, 3) := dk_17 (dq_lk dX4_yearOf_v0 (r := 4) (x := 17) rfl) (dq_lk dX4_yearOf_v0 (r := 5) (x := 7) rfl) (dq_lk dX4_yearOf_v0 (r := 6) (x := 119) rfl) (by decide +kernel)
theorem dX4_yearOf_7 : decode cX4_yearOf 7 = .ok (.invokestatic 52, 3) := dk_184 (dq_lk dX4_yearOf_v0 (r := 7) (x := 184) rfl) (dq_lk dX4_yearOf_v0 (r := 8) (x := 0) rfl) (dq_lk dX4_yearOf_v0 (r := 9) (x := 52) rfl)
theorem dX4_yearOf_10 : decode cX4_yearOf 10 = .ok (.istore_n 2, 1) := dk_61 (dq_lk dX4_yearOf_v0 (r := 10) (x := 61) rfl)
theorem dX4_yearOf_11 : decode cX4_yearOf 11 = .ok (.iload_n 2, 1) := dk_28 (dq_lk dX4_yearOf_v0 (r := 11) (x := 28) rfl)
theorem dX4_yearOf_12 : decode cX4_yearOf 12 = .ok (.iload_n 0, 1) := dk_26 (dq_lk dX4_yearOf_v0 (r := 12) (x := 26) rfl)
theorem dX4_yearOf_13 : decode cX4_yearOf 13 = .ok (.if_icmp .gt 16, 3) := dk_163 (dq_lk dX4_yearOf_v0 (r := 13) (x := 163) rfl) (dq_lk dX4_yearOf_v0 (r := 14) (x := 0) rfl) (dq_lk dX4_yearOf_v0 (r := 15) (x := 16) rfl) (by decide +kernel)
theorem dX4_yearOf_16 : decode cX4_yearOf 16 = .ok (.iinc 1 1, 3) := dk_132 (dq_lk dX4_yearOf_v1 (r := 0) (x := 132) rfl) (dq_lk dX4_yearOf_v1 (r := 1) (x := 1) rfl) (dq_lk dX4_yearOf_v1 (r := 2) (x := 1) rfl) (by decide +kernel)
theorem dX4_yearOf_19 : decode cX4_yearOf 19 = .ok (.iload_n 2, 1) := dk_28 (dq_lk dX4_yearOf_v1 (r := 3) (x := 28) rfl)
theorem dX4_yearOf_20 : decode cX4_yearOf 20 = .ok (.iload_n 1, 1) := dk_27 (dq_lk dX4_yearOf_v1 (r := 4) (x := 27) rfl)
theorem dX4_yearOf_21 : decode cX4_yearOf 21 = .ok (.invokestatic 48, 3) := dk_184 (dq_lk dX4_yearOf_v1 (r := 5) (x := 184) rfl) (dq_lk dX4_yearOf_v1 (r := 6) (x := 0) rfl) (dq_lk dX4_yearOf_v1 (r := 7) (x := 48) rfl)
theorem dX4_yearOf_24 : decode cX4_yearOf 24 = .ok (.iadd, 1) := dk_96 (dq_lk dX4_yearOf_v1 (r := 8) (x := 96) rfl)
theorem dX4_yearOf_25 : decode cX4_yearOf 25 = .ok (.istore_n 2, 1) := dk_61 (dq_lk dX4_yearOf_v1 (r := 9) (x := 61) rfl)
theorem dX4_yearOf_26 : decode cX4_yearOf 26 = .ok (.goto (-15), 3) := dk_167 (dq_lk dX4_yearOf_v1 (r := 10) (x := 167) rfl) (dq_lk dX4_yearOf_v1 (r := 11) (x := 255) rfl) (dq_lk dX4_yearOf_v1 (r := 12) (x := 241) rfl) (by decide +kernel)
theorem dX4_yearOf_29 : decode cX4_yearOf 29 = .ok (.iload_n 1, 1) := dk_27 (dq_lk dX4_yearOf_v1 (r := 13) (x := 27) rfl)
theorem dX4_yearOf_30 : decode cX4_yearOf 30 = .ok (.ireturn, 1) := dk_172 (dq_lk dX4_yearOf_v1 (r := 14) (x := 172) rfl)
theorem dX4_parts_w0 : (cX4_parts.data.toList.drop 0).take 64 = [26, 184, 0, 58, 60, 26, 27, 184, 0, 52, 100, 61, 28, 4, 96, 62, 4, 54, 4, 28, 27, 21, 4, 184, 0, 55, 161, 0, 18, 28, 27, 21, 4, 184, 0, 55, 100, 61, 132, 4, 1, 167, 255, 234, 7, 188, 10, 89, 3, 27, 79, 89, 4, 21, 4, 79, 89, 5, 28, 4, 96, 79, 89, 6] := by decide +kernel
theorem dX4_parts_w1 : (cX4_parts.data.toList.drop 64).take 64 = [29, 79, 176] := by decide +kernel
theorem dX4_parts_v0 : (cX4_parts.data.toList.drop 0).take 16 = [26, 184, 0, 58, 60, 26, 27, 184, 0, 52, 100, 61, 28, 4, 96, 62] := dq_sub (n := 0) (j := 0) dX4_parts_w0 (by decide) rfl
theorem dX4_parts_v1 : (cX4_parts.data.toList.drop 16).take 16 = [4, 54, 4, 28, 27, 21, 4, 184, 0, 55, 161, 0, 18, 28, 27, 21] := dq_sub (n := 0) (j := 16) dX4_parts_w0 (by decide) rfl
theorem dX4_parts_v2 : (cX4_parts.data.toList.drop 32).take 16 = [4, 184, 0, 55, 100, 61, 132, 4, 1, 167, 255, 234, 7, 188, 10, 89] := dq_sub (n := 0) (j := 32) dX4_parts_w0 (by decide) rfl
theorem dX4_parts_v3 : (cX4_parts.data.toList.drop 48).take 16 = [3, 27, 79, 89, 4, 21, 4, 79, 89, 5, 28, 4, 96, 79, 89, 6] := dq_sub (n := 0) (j := 48) dX4_parts_w0 (by decide) rfl
theorem dX4_parts_v4 : (cX4_parts.data.toList.drop 64).take 16 = [29, 79, 176] := dq_sub (n := 64) (j := 0) dX4_parts_w1 (by decide) rfl
theorem dX4_parts_0 : decode cX4_parts 0 = .ok (.iload_n 0, 1) := dk_26 (dq_lk dX4_parts_v0 (r := 0) (x := 26) rfl)
theorem dX4_parts_1 : decode cX4_parts 1 = .ok (.invokestatic 58, 3) := dk_184 (dq_lk dX4_parts_v0 (r := 1) (x := 184) rfl) (dq_lk dX4_parts_v0 (r := 2) (x := 0) rfl) (dq_lk dX4_parts_v0 (r := 3) (x := 58) rfl)
theorem dX4_parts_4 : decode cX4_parts 4 = .ok (.istore_n 1, 1) := dk_60 (dq_lk dX4_parts_v0 (r := 4) (x := 60) rfl)
theorem dX4_parts_5 : decode cX4_parts 5 = .ok (.iload_n 0, 1) := dk_26 (dq_lk dX4_parts_v0 (r := 5) (x := 26) rfl)
theorem dX4_parts_6 : decode cX4_parts 6 = .ok (.iload_n 1, 1) := dk_27 (dq_lk dX4_parts_v0 (r := 6) (x := 27) rfl)
theorem dX4_parts_7 : decode cX4_parts 7 = .ok (.invokestatic 52, 3) := dk_184 (dq_lk dX4_parts_v0 (r := 7) (x := 184) rfl) (dq_lk dX4_parts_v0 (r := 8) (x := 0) rfl) (dq_lk dX4_parts_v0 (r := 9) (x := 52) rfl)
theorem dX4_parts_10 : decode cX4_parts 10 = .ok (.isub, 1) := dk_100 (dq_lk dX4_parts_v0 (r := 10) (x := 100) rfl)
theorem dX4_parts_11 : decode cX4_parts 11 = .ok (.istore_n 2, 1) := dk_61 (dq_lk dX4_parts_v0 (r := 11) (x := 61) rfl)
theorem dX4_parts_12 : decode cX4_parts 12 = .ok (.iload_n 2, 1) := dk_28 (dq_lk dX4_parts_v0 (r := 12) (x := 28) rfl)
theorem dX4_parts_13 : decode cX4_parts 13 = .ok (.iconst 1, 1) := dk_4 (dq_lk dX4_parts_v0 (r := 13) (x := 4) rfl)
theorem dX4_parts_14 : decode cX4_parts 14 = .ok (.iadd, 1) := dk_96 (dq_lk dX4_parts_v0 (r := 14) (x := 96) rfl)
theorem dX4_parts_15 : decode cX4_parts 15 = .ok (.istore_n 3, 1) := dk_62 (dq_lk dX4_parts_v0 (r := 15) (x := 62) rfl)
theorem dX4_parts_16 : decode cX4_parts 16 = .ok (.iconst 1, 1) := dk_4 (dq_lk dX4_parts_v1 (r := 0) (x := 4) rfl)
theorem dX4_parts_17 : decode cX4_parts 17 = .ok (.istore 4, 2) := dk_54 (dq_lk dX4_parts_v1 (r := 1) (x := 54) rfl) (dq_lk dX4_parts_v1 (r := 2) (x := 4) rfl)
theorem dX4_parts_19 : decode cX4_parts 19 = .ok (.iload_n 2, 1) := dk_28 (dq_lk dX4_parts_v1 (r := 3) (x := 28) rfl)
theorem dX4_parts_20 : decode cX4_parts 20 = .ok (.iload_n 1, 1) := dk_27 (dq_lk dX4_parts_v1 (r := 4) (x := 27) rfl)
theorem dX4_parts_21 : decode cX4_parts 21 = .ok (.iload 4, 2) := dk_21 (dq_lk dX4_parts_v1 (r := 5) (x := 21) rfl) (dq_lk dX4_parts_v1 (r := 6) (x := 4) rfl)
theorem dX4_parts_23 : decode cX4_parts 23 = .ok (.invokestatic 55, 3) := dk_184 (dq_lk dX4_parts_v1 (r := 7) (x := 184) rfl) (dq_lk dX4_parts_v1 (r := 8) (x := 0) rfl) (dq_lk dX4_parts_v1 (r := 9) (x := 55) rfl)
theorem dX4_parts_26 : decode cX4_parts 26 = .ok (.if_icmp .lt 18, 3) := dk_161 (dq_lk dX4_parts_v1 (r := 10) (x := 161) rfl) (dq_lk dX4_parts_v1 (r := 11) (x := 0) rfl) (dq_lk dX4_parts_v1 (r := 12) (x := 18) rfl) (by decide +kernel)
theorem dX4_parts_29 : decode cX4_parts 29 = .ok (.iload_n 2, 1) := dk_28 (dq_lk dX4_parts_v1 (r := 13) (x := 28) rfl)
theorem dX4_parts_30 : decode cX4_parts 30 = .ok (.iload_n 1, 1) := dk_27 (dq_lk dX4_parts_v1 (r := 14) (x := 27) rfl)
theorem dX4_parts_31 : decode cX4_parts 31 = .ok (.iload 4, 2) := dk_21 (dq_lk dX4_parts_v1 (r := 15) (x := 21) rfl) (dq_lk dX4_parts_v2 (r := 0) (x := 4) rfl)
theorem dX4_parts_33 : decode cX4_parts 33 = .ok (.invokestatic 55, 3) := dk_184 (dq_lk dX4_parts_v2 (r := 1) (x := 184) rfl) (dq_lk dX4_parts_v2 (r := 2) (x := 0) rfl) (dq_lk dX4_parts_v2 (r := 3) (x := 55) rfl)
theorem dX4_parts_36 : decode cX4_parts 36 = .ok (.isub, 1) := dk_100 (dq_lk dX4_parts_v2 (r := 4) (x := 100) rfl)
theorem dX4_parts_37 : decode cX4_parts 37 = .ok (.istore_n 2, 1) := dk_61 (dq_lk dX4_parts_v2 (r := 5) (x := 61) rfl)
theorem dX4_parts_38 : decode cX4_parts 38 = .ok (.iinc 4 1, 3) := dk_132 (dq_lk dX4_parts_v2 (r := 6) (x := 132) rfl) (dq_lk dX4_parts_v2 (r := 7) (x := 4) rfl) (dq_lk dX4_parts_v2 (r := 8) (x := 1) rfl) (by decide +kernel)
theorem dX4_parts_41 : decode cX4_parts 41 = .ok (.goto (-22), 3) := dk_167 (dq_lk dX4_parts_v2 (r := 9) (x := 167) rfl) (dq_lk dX4_parts_v2 (r := 10) (x := 255) rfl) (dq_lk dX4_parts_v2 (r := 11) (x := 234) rfl) (by decide +kernel)
theorem dX4_parts_44 : decode cX4_parts 44 = .ok (.iconst 4, 1) := dk_7 (dq_lk dX4_parts_v2 (r := 12) (x := 7) rfl)
theorem dX4_parts_45 : decode cX4_parts 45 = .ok (.newarray .int, 2) := by decide +kernel
theorem dX4_parts_47 : decode cX4_parts 47 = .ok (.dup, 1) := dk_89 (dq_lk dX4_parts_v2 (r := 15) (x := 89) rfl)
theorem dX4_parts_48 : decode cX4_parts 48 = .ok (.iconst 0, 1) := dk_3 (dq_lk dX4_parts_v3 (r := 0) (x := 3) rfl)
theorem dX4_parts_49 : decode cX4_parts 49 = .ok (.iload_n 1, 1) := dk_27 (dq_lk dX4_parts_v3 (r := 1) (x := 27) rfl)
theorem dX4_parts_50 : decode cX4_parts 50 = .ok (.iastore, 1) := dk_79 (dq_lk dX4_parts_v3 (r := 2) (x := 79) rfl)
theorem dX4_parts_51 : decode cX4_parts 51 = .ok (.dup, 1) := dk_89 (dq_lk dX4_parts_v3 (r := 3) (x := 89) rfl)
theorem dX4_parts_52 : decode cX4_parts 52 = .ok (.iconst 1, 1) := dk_4 (dq_lk dX4_parts_v3 (r := 4) (x := 4) rfl)
theorem dX4_parts_53 : decode cX4_parts 53 = .ok (.iload 4, 2) := dk_21 (dq_lk dX4_parts_v3 (r := 5) (x := 21) rfl) (dq_lk dX4_parts_v3 (r := 6) (x := 4) rfl)
theorem dX4_parts_55 : decode cX4_parts 55 = .ok (.iastore, 1) := dk_79 (dq_lk dX4_parts_v3 (r := 7) (x := 79) rfl)
theorem dX4_parts_56 : decode cX4_parts 56 = .ok (.dup, 1) := dk_89 (dq_lk dX4_parts_v3 (r := 8) (x := 89) rfl)
theorem dX4_parts_57 : decode cX4_parts 57 = .ok (.iconst 2, 1) := dk_5 (dq_lk dX4_parts_v3 (r := 9) (x := 5) rfl)
theorem dX4_parts_58 : decode cX4_parts 58 = .ok (.iload_n 2, 1) := dk_28 (dq_lk dX4_parts_v3 (r := 10) (x := 28) rfl)
theorem dX4_parts_59 : decode cX4_parts 59 = .ok (.iconst 1, 1) := dk_4 (dq_lk dX4_parts_v3 (r := 11) (x := 4) rfl)
theorem dX4_parts_60 : decode cX4_parts 60 = .ok (.iadd, 1) := dk_96 (dq_lk dX4_parts_v3 (r := 12) (x := 96) rfl)
theorem dX4_parts_61 : decode cX4_parts 61 = .ok (.iastore, 1) := dk_79 (dq_lk dX4_parts_v3 (r := 13) (x := 79) rfl)
theorem dX4_parts_62 : decode cX4_parts 62 = .ok (.dup, 1) := dk_89 (dq_lk dX4_parts_v3 (r := 14) (x := 89) rfl)
theorem dX4_parts_63 : decode cX4_parts 63 = .ok (.iconst 3, 1) := dk_6 (dq_lk dX4_parts_v3 (r := 15) (x := 6) rfl)
theorem dX4_parts_64 : decode cX4_parts 64 = .ok (.iload_n 3, 1) := dk_29 (dq_lk dX4_parts_v4 (r := 0) (x := 29) rfl)
theorem dX4_parts_65 : decode cX4_parts 65 = .ok (.iastore, 1) := dk_79 (dq_lk dX4_parts_v4 (r := 1) (x := 79) rfl)
theorem dX4_parts_66 : decode cX4_parts 66 = .ok (.areturn, 1) := dk_176 (dq_lk dX4_parts_v4 (r := 2) (x := 176) rfl)
theorem c_X4_firstOf (tys : List (ClassId × FieldType)) (ws : va_W) (y : Nat) (hy : y < 2100) (hy0 : 1900 ≤ y) : mCt tys yX4_firstOf cX4_firstOf 3 (some .int) ⟨2, 0, 0, 48⟩ [.int (nI y)] ws (fun v ws' => v = some (.int (iZ (FO y))) ∧ ws' = ws) mNo := by
  refine mCt.of (by decide +kernel) (Nat.le_of_ble_eq_true rfl) (fun X hX hE => ?_)
  replace hX : mOK X RX4 cX4_firstOf 3 ⟨2, 0, 0, 48⟩ [] tys := hX
  have fin : ∀ lv, lget lv 1 = some (.int (iZ (FO y))) → mV X 46 lv [] ws 0 0 := fun lv h => by
    refine r_iload_n hX dX4_firstOf_46 rfl h ?_
    exact r_iret hX hE dX4_firstOf_47 (Nat.le_of_ble_eq_true rfl) (Nat.le_of_ble_eq_true rfl) ⟨rfl, rfl⟩
  have L26 : ∀ (N k : Nat), 1970 - k < N → y ≤ k → k ≤ 2100 → mV X 26 [(0, some (.int (nI y))), (1, some (.int (iZ (if k ≤ 1970 then FO y - FO k else FO y)))), (2, some (.int (nI k)))] [] ws 0 0 := by
    intro N
    induction N with
    | zero => intro k h; omega
    | succ N ih =>
      intro k h1 h2 h3
      by_cases hb : k < 1970
      · refine r_iload_n hX dX4_firstOf_26 rfl rfl (r_sipush (v := 1970) hX dX4_firstOf_27 (by decide) (r_icmp_ge (tgt := 46) hX dX4_firstOf_30 (by decide) (fun c => absurd ((nI_leI (a := 1970) (b := k) (by omega) (by omega)).mp c) (by omega)) (fun c => ?_)))
        refine r_iload_n hX dX4_firstOf_33 rfl rfl (r_iload_n hX dX4_firstOf_34 rfl rfl (r_callS hX (c_X4_daysOf_ _ _ k (by omega)) ks_X4_48 rfl rfl (Nat.le_of_ble_eq_true rfl) ⟨(Nat.le_of_ble_eq_true rfl), (Nat.le_of_ble_eq_true rfl)⟩ ⟨(Nat.le_of_ble_eq_true rfl), (Nat.le_of_ble_eq_true rfl)⟩ dX4_firstOf_35 (fun _ _ z => False.elim z) (fun v9 ws9 h => ?_)))
        obtain ⟨rfl, hw9⟩ := h
        subst ws9
        dsimp only [mPush]
        refine r_isub hX dX4_firstOf_38 (r_istore_n hX dX4_firstOf_39 rfl (by decide) rfl (r_iinc hX dX4_firstOf_40 rfl (by decide) rfl (r_goto (tgt := 26) hX dX4_firstOf_43 (by decide) (r_loc (k' := 0) (n' := 0) ?_ (by decide) (by decide) (ih (k + 1) (by omega) (by omega) (by omega))))))
        refine ⟨rfl, ?_, nI_inc' _, trivial⟩
        have hs := FO_s (y := k) (by omega)
        rw [if_pos (by omega : k ≤ 1970), if_pos (by omega : k + 1 ≤ 1970), iZ_nI (yl k), iZ_sub]
        exact congrArg (fun z : Int => some (Value.int (iZ z))) (by omega)
      · refine r_iload_n hX dX4_firstOf_26 rfl rfl (r_sipush (v := 1970) hX dX4_firstOf_27 (by decide) ?_)
        by_cases hk : k < 2147483648
        · refine r_icmp_ge (tgt := 46) hX dX4_firstOf_30 (by decide) (fun c => ?_) (fun c => absurd ((nI_leI (a := 1970) (b := k) (by omega) (by omega)).mpr (by omega)) c)
          refine fin _ ?_
          by_cases h70 : k ≤ 1970
          · have : k = 1970 := by omega
            subst this
            rw [if_pos (by omega), FO_1970, Int.sub_zero]
            rfl
          · rw [if_neg h70]
            rfl
        · omega
  have L6 : ∀ (N k : Nat), y - k < N → k ≤ y → 1970 ≤ k → mV X 6 [(0, some (.int (nI y))), (1, some (.int (iZ (FO k)))), (2, some (.int (nI k)))] [] ws 0 0 := by
    intro N
    induction N with
    | zero => intro k h; omega
    | succ N ih =>
      intro k h1 h2 h3
      refine r_iload_n hX dX4_firstOf_6 rfl rfl (r_iload_n hX dX4_firstOf_7 rfl rfl (r_icmp_ge (tgt := 24) hX dX4_firstOf_8 (by decide) (fun c => ?_) (fun c => ?_)))
      · have hk : k = y := by
          have := (nI_leI (a := y) (b := k) (by omega) (by omega)).mp c
          omega
        subst hk
        refine r_iload_n hX dX4_firstOf_24 rfl rfl (r_istore_n hX dX4_firstOf_25 rfl (by decide) rfl (r_loc (k' := 0) (n' := 0) ?_ (by decide) (by decide) (L26 (1970 - k + 1) k (by omega) (by omega) (by omega))))
        refine ⟨rfl, ?_, rfl, trivial⟩
        by_cases h70 : k ≤ 1970
        · have : k = 1970 := by omega
          subst this
          rw [if_pos (by omega), FO_1970]
          rfl
        · rw [if_neg h70]
          rfl
      · have hk : k < y := by
          rcases Nat.lt_or_ge k y with q | q
          · exact q
          · exact absurd ((nI_leI (a := y) (b := k) (by omega) (by omega)).mpr q) c
        refine r_iload_n hX dX4_firstOf_11 rfl rfl (r_iload_n hX dX4_firstOf_12 rfl rfl (r_callS hX (c_X4_daysOf_ _ _ k (by omega)) ks_X4_48 rfl rfl (Nat.le_of_ble_eq_true rfl) ⟨(Nat.le_of_ble_eq_true rfl), (Nat.le_of_ble_eq_true rfl)⟩ ⟨(Nat.le_of_ble_eq_true rfl), (Nat.le_of_ble_eq_true rfl)⟩ dX4_firstOf_13 (fun _ _ z => False.elim z) (fun v9 ws9 h => ?_)))
        obtain ⟨rfl, hw9⟩ := h
        subst ws9
        dsimp only [mPush]
        refine r_iadd hX dX4_firstOf_16 (r_istore_n hX dX4_firstOf_17 rfl (by decide) rfl (r_iinc hX dX4_firstOf_18 rfl (by decide) rfl (r_goto (tgt := 6) hX dX4_firstOf_21 (by decide) (r_loc (k' := 0) (n' := 0) ?_ (by decide) (by decide) (ih (k + 1) (by omega) (by omega) (by omega))))))
        refine ⟨rfl, ?_, nI_inc' _, trivial⟩
        have hs := FO_s (y := k) (by omega)
        rw [iZ_nI (yl k), iZ_add, hs]
        rfl
  refine r_iconst (v := 0) hX dX4_firstOf_0 (by decide) (r_istore_n hX dX4_firstOf_1 rfl (by decide) rfl (r_sipush (v := 1970) hX dX4_firstOf_2 (by decide) (r_istore_n hX dX4_firstOf_5 rfl (by decide) rfl ?_)))
  by_cases h70 : 1970 ≤ y
  · refine r_loc (k' := 0) (n' := 0) ?_ (by decide) (by decide) (L6 (y - 1970 + 1) 1970 (by omega) h70 (by omega))
    refine ⟨rfl, ?_, rfl, trivial⟩
    rw [FO_1970]
    rfl
  · refine r_iload_n hX dX4_firstOf_6 rfl rfl (r_iload_n hX dX4_firstOf_7 rfl rfl (r_icmp_ge (tgt := 24) hX dX4_firstOf_8 (by decide) (fun c => ?_) (fun c => absurd ((nI_leI (a := y) (b := 1970) (by omega) (by omega)).mpr (by omega)) c)))
    refine r_iload_n hX dX4_firstOf_24 rfl rfl (r_istore_n hX dX4_firstOf_25 rfl (by decide) rfl (r_loc (k' := 0) (n' := 0) ?_ (by decide) (by decide) (L26 (1970 - y + 1) y (by omega) (by omega) (by omega))))
    refine ⟨rfl, ?_, rfl, trivial⟩
    rw [if_pos (by omega), Int.sub_self]
    rfl
theorem c_X4_dayOf (tys : List (ClassId × FieldType)) (ws : va_W) (y : Nat) (hy : y < 2100) (hy0 : 1900 ≤ y) (m : Nat) (hm : m ≤ 12) (hm0 : 1 ≤ m) (d : Nat) (hd : d < 1000) : mCt tys yX4_dayOf cX4_dayOf 5 (some .int) ⟨3, 0, 0, 70⟩ [.int (nI y), .int (nI m), .int (nI d)] ws (fun v ws' => v = some (.int (iZ (FO y + DB y m + (d : Int) - 1))) ∧ ws' = ws) mNo := by
  refine mCt.of (by decide +kernel) (Nat.le_of_ble_eq_true rfl) (fun X hX hE => ?_)
  replace hX : mOK X RX4 cX4_dayOf 5 ⟨3, 0, 0, 70⟩ [] tys := hX
  have L12 : ∀ (N k : Nat), m - k < N → k ≤ m → 1 ≤ k → mV X 12 [(0, some (.int (nI y))), (1, some (.int (nI m))), (3, some (.int (iZ (FO y + DB y k + (d : Int) - 1)))), (4, some (.int (nI k)))] [] ws 0 0 := by
    intro N
    induction N with
    | zero => intro k h; omega
    | succ N ih =>
      intro k h1 h2 h3
      refine r_iload hX dX4_dayOf_12 rfl (r_iload_n hX dX4_dayOf_14 rfl rfl (r_icmp_ge (tgt := 33) hX dX4_dayOf_15 (by decide) (fun c => ?_) (fun c => ?_)))
      · have hk : k = m := by
          have := (nI_leI (a := m) (b := k) (by omega) (by omega)).mp c
          omega
        subst hk
        refine r_iload_n hX dX4_dayOf_33 rfl rfl ?_
        exact r_iret hX hE dX4_dayOf_34 (Nat.le_of_ble_eq_true rfl) (Nat.le_of_ble_eq_true rfl) ⟨rfl, rfl⟩
      · have hk : k < m := by
          rcases Nat.lt_or_ge k m with q | q
          · exact q
          · exact absurd ((nI_leI (a := m) (b := k) (by omega) (by omega)).mpr q) c
        refine r_iload_n hX dX4_dayOf_18 rfl rfl (r_iload_n hX dX4_dayOf_19 rfl rfl (r_iload hX dX4_dayOf_20 rfl (r_callS hX (c_X4_daysOf _ _ y hy k (by omega)) ks_X4_55 rfl rfl (Nat.le_of_ble_eq_true rfl) ⟨(Nat.le_of_ble_eq_true rfl), (Nat.le_of_ble_eq_true rfl)⟩ ⟨(Nat.le_of_ble_eq_true rfl), (Nat.le_of_ble_eq_true rfl)⟩ dX4_dayOf_22 (fun _ _ z => False.elim z) (fun v9 ws9 h => ?_))))
        obtain ⟨rfl, hw9⟩ := h
        subst ws9
        dsimp only [mPush]
        refine r_iadd hX dX4_dayOf_25 (r_istore_n hX dX4_dayOf_26 rfl (by decide) rfl (r_iinc hX dX4_dayOf_27 rfl (by decide) rfl (r_goto (tgt := 12) hX dX4_dayOf_30 (by decide) (r_loc (k' := 0) (n' := 0) ?_ (by decide) (by decide) (ih (k + 1) (by omega) (by omega) (by omega))))))
        refine ⟨rfl, rfl, ?_, nI_inc' _, trivial⟩
        rw [DB_s h3, iZ_nI (dm y k), iZ_add]
        exact congrArg (fun z : Int => some (Value.int (iZ z))) (by omega)
  refine r_iload_n hX dX4_dayOf_0 rfl rfl (r_callS hX (c_X4_firstOf _ _ y hy hy0) ks_X4_52 rfl rfl (Nat.le_of_ble_eq_true rfl) ⟨(Nat.le_of_ble_eq_true rfl), (Nat.le_of_ble_eq_true rfl)⟩ ⟨(Nat.le_of_ble_eq_true rfl), (Nat.le_of_ble_eq_true rfl)⟩ dX4_dayOf_1 (fun _ _ z => False.elim z) (fun v9 ws9 h => ?_))
  obtain ⟨rfl, hw9⟩ := h
  subst ws9
  dsimp only [mPush]
  refine r_iload_n hX dX4_dayOf_4 rfl rfl (r_iadd hX dX4_dayOf_5 (r_iconst (v := 1) hX dX4_dayOf_6 (by decide) (r_isub hX dX4_dayOf_7 (r_istore_n hX dX4_dayOf_8 rfl (by decide) rfl (r_iconst (v := 1) hX dX4_dayOf_9 (by decide) (r_istore hX dX4_dayOf_10 (by decide) rfl (r_loc (k' := 0) (n' := 0) ?_ (by decide) (by decide) (L12 m 1 (by omega) hm0 (by omega)))))))))
  refine ⟨rfl, rfl, ?_, rfl, trivial⟩
  rw [DB_1, iZ_nI d, iZ_add, show (1 : Int32) = iZ 1 by decide, iZ_sub]
  exact congrArg (fun z : Int => some (Value.int (iZ z))) (by omega)
theorem c_X4_yearOf (tys : List (ClassId × FieldType)) (ws : va_W) (d : Int) (h1 : -21915 ≤ d) (h2 : d ≤ 22279) : mCt tys yX4_yearOf cX4_yearOf 3 (some .int) ⟨3, 0, 0, 70⟩ [.int (iZ d)] ws (fun v ws' => ∃ y, 1910 ≤ y ∧ y ≤ 2030 ∧ FO y ≤ d ∧ d < FO (y + 1) ∧ v = some (.int (nI y)) ∧ ws' = ws) mNo := by
  refine mCt.of (by decide +kernel) (Nat.le_of_ble_eq_true rfl) (fun X hX hE => ?_)
  replace hX : mOK X RX4 cX4_yearOf 3 ⟨3, 0, 0, 70⟩ [] tys := hX
  have L11 : ∀ (N y : Nat), 2031 - y < N → 1910 ≤ y → y ≤ 2030 → FO y ≤ d → mV X 11 [(0, some (.int (iZ d))), (1, some (.int (nI y))), (2, some (.int (iZ (FO (y + 1)))))] [] ws 0 0 := by
    intro N
    induction N with
    | zero => intro y h; omega
    | succ N ih =>
      intro y hN hy1 hy2 hF
      have hb := FO_b (y := y + 1) (by omega)
      refine r_iload_n hX dX4_yearOf_11 rfl rfl (r_iload_n hX dX4_yearOf_12 rfl rfl (r_icmp_gt (tgt := 29) hX dX4_yearOf_13 (by decide) (fun c => ?_) (fun c => ?_)))
      · have hlt := (iZ_lt (a := d) (b := FO (y + 1)) (by omega) (by omega) (by omega) (by omega)).mp c
        refine r_iload_n hX dX4_yearOf_29 rfl rfl ?_
        exact r_iret hX hE dX4_yearOf_30 (Nat.le_of_ble_eq_true rfl) (Nat.le_of_ble_eq_true rfl) ⟨y, hy1, hy2, hF, hlt, rfl, rfl⟩
      · have hge : FO (y + 1) ≤ d := by
          by_cases q : d < FO (y + 1)
          · exact absurd ((iZ_lt (a := d) (b := FO (y + 1)) (by omega) (by omega) (by omega) (by omega)).mpr q) c
          · omega
        have hy3 : y + 1 ≤ 2030 := by
          rcases Nat.lt_or_ge y 2030 with q | q
          · omega
          · have : y = 2030 := by omega
            subst this
            rw [FO_2031] at hge
            omega
        refine r_iinc hX dX4_yearOf_16 rfl (by decide) rfl (r_iload_n hX dX4_yearOf_19 rfl rfl (r_iload_n (x := nI (y + 1)) hX dX4_yearOf_20 rfl (nI_inc' _) (r_callS hX (c_X4_daysOf_ _ _ (y + 1) (by omega)) ks_X4_48 rfl rfl (Nat.le_of_ble_eq_true rfl) ⟨(Nat.le_of_ble_eq_true rfl), (Nat.le_of_ble_eq_true rfl)⟩ ⟨(Nat.le_of_ble_eq_true rfl), (Nat.le_of_ble_eq_true rfl)⟩ dX4_yearOf_21 (fun _ _ z => False.elim z) (fun v9 ws9 h => ?_))))
        obtain ⟨rfl, hw9⟩ := h
        subst ws9
        dsimp only [mPush]
        refine r_iadd hX dX4_yearOf_24 (r_istore_n hX dX4_yearOf_25 rfl (by decide) rfl (r_goto (tgt := 11) hX dX4_yearOf_26 (by decide) (r_loc (k' := 0) (n' := 0) ?_ (by decide) (by decide) (ih (y + 1) (by omega) (by omega) hy3 hge))))
        refine ⟨rfl, nI_inc' _, ?_, trivial⟩
        have hs := FO_s (y := y + 1) (by omega)
        rw [iZ_nI (yl (y + 1)), iZ_add, hs]
        rfl
  refine r_sipush (v := 1910) hX dX4_yearOf_0 (by decide) (r_istore_n hX dX4_yearOf_3 rfl (by decide) rfl (r_sipush (v := nI 1911) hX dX4_yearOf_4 (by decide) (r_callS hX (c_X4_firstOf _ _ 1911 (by decide) (by decide)) ks_X4_52 rfl rfl (Nat.le_of_ble_eq_true rfl) ⟨(Nat.le_of_ble_eq_true rfl), (Nat.le_of_ble_eq_true rfl)⟩ ⟨(Nat.le_of_ble_eq_true rfl), (Nat.le_of_ble_eq_true rfl)⟩ dX4_yearOf_7 (fun _ _ z => False.elim z) (fun v9 ws9 h => ?_))))
  obtain ⟨rfl, hw9⟩ := h
  subst ws9
  dsimp only [mPush]
  refine r_istore_n hX dX4_yearOf_10 rfl (by decide) rfl ?_
  exact r_loc (k' := 0) (n' := 0) (by exact ⟨rfl, rfl, rfl, trivial⟩) (by decide) (by decide) (L11 122 1910 (by decide) (by decide) (by decide) (by rw [FO_1910]; exact h1))
end
-- 21 cal21
section
/-! The reference, its contracts (rows by a program of this repository). -/
/-! THE REFERENCE'S WORLD, behind the class's. (Own work.) -/
/-- thrown, knocks, refusals; offsets; moments; days, seconds, nanos, owns -/
abbrev mJ : Type := (Int32 × Int32 × Int32) × (Nat → Int32) × (Nat → Int64) × (Nat → Int32) × (Nat → Int32) × (Nat → Int32) × (Nat → Int32)
def mMd (ae : Nat → Nat) (cs : ClassId × ClassId × ClassId) (J : mJ) (rest : va_W) : va_W :=
  (ae 0, .inr (5, [.int J.1.1, .int J.1.2.1, .int J.1.2.2, .ref (ae 1), .ref (ae 2), .ref (ae 3), .ref (ae 4), .ref (ae 5), .ref (ae 6)])) ::
  (ae 1, .inl (cs.1, 4, .inl J.2.1)) :: (ae 2, .inl (cs.2.1, 4, .inr (.inl J.2.2.1))) :: (ae 3, .inl (cs.1, 7, .inl J.2.2.2.1)) :: (ae 4, .inl (cs.1, 7, .inl J.2.2.2.2.1)) :: (ae 5, .inl (cs.1, 7, .inl J.2.2.2.2.2.1)) :: (ae 6, .inl (cs.1, 7, .inl J.2.2.2.2.2.2)) :: rest
def mRw (ad ae : Nat → Nat) (cs : ClassId × ClassId × ClassId) (K : mK) (J : mJ) (rest : va_W) : va_W := mWd ad cs K (mMd ae cs J rest)
/-- every day lies in the years 1910 to 2030 -/
def mWF (J : mJ) : Prop := ∀ k, k < 7 → ∃ d : Int, J.2.2.2.1 k = iZ d ∧ -21915 ≤ d ∧ d ≤ 22279
theorem mWF.set {J : mJ} {f : Nat → Int32} (h : mWF J) (hf : J.2.2.2.1 = f) {i : Nat} {x : Int32} {d : Int} (hx : x = iZ d) (h1 : -21915 ≤ d) (h2 : d ≤ 22279) : ∀ k, k < 7 → ∃ d : Int, (upd f i x) k = iZ d ∧ -21915 ≤ d ∧ d ≤ 22279 := by
  intro k hk
  by_cases e : k = i
  · exact ⟨d, by simp [upd, e, hx], h1, h2⟩
  · obtain ⟨d', h3, h4⟩ := h k hk
    exact ⟨d', by rw [← hf]; simp [upd, e, h3], h4⟩
theorem mRw_app {ad ae : Nat → Nat} {cs : ClassId × ClassId × ClassId} {K : mK} {J : mJ} {rest l : va_W} : mRw ad ae cs K J rest ++ l = mRw ad ae cs K J (rest ++ l) := rfl
theorem mLast {l : va_W} {x : Nat × va_E} : (l ++ [x])[l.length]? = some x := by simp
theorem mSetLast {l : va_W} {x y : Nat × va_E} : (l ++ [x]).set l.length y = l ++ [y] := by simp
theorem ka_int : Cond.arrayClass .int ∈ mW := mW_at 91 (by decide +kernel) (by decide +kernel)
theorem ka_long : Cond.arrayClass .long ∈ mW := mW_at 92 (by decide +kernel) (by decide +kernel)
section MNA
variable {X : mC} {own : String} {cc : ByteArray} {nL : Nat} {R : Room} {hh : List (Nat × Nat × Nat × Nat)} {tys : List (ClassId × FieldType)} {pc : Nat} {lv : List (Nat × Option Value)} {st : List Value} {ws ws' : va_W} {k n : Nat}
theorem r_eqw (h : ws = ws') (kk : mV X pc lv st ws' k n) : mV X pc lv st ws k n := h ▸ kk
theorem r_drop {l : va_W} (kk : mV X pc lv st ws k n) : mV X pc lv st (ws ++ l) k n := by
  refine r_take ws.length ?_
  rw [List.take_left]
  exact kk
theorem r_newai {N : Nat} {cA : ClassId} (hX : mOK X own cc nL R hh tys) (t0 : Nat) (ht : tys[t0]? = some (cA, .int)) (hN : N < 1000) (hd : decode cc pc = .ok (.newarray .int, 2)) (hc : k + 1 ≤ R.cells) (hs : n + N ≤ R.slots) (kk : ∀ q, mV X (pc + 2) lv (.ref q :: st) (ws ++ [(q, .inl (cA, N, .inl (fun _ => 0)))]) (k + 1) (n + N)) : mV X pc lv (.int (nI N) :: st) ws k n := by
  obtain ⟨p, l, e, R', s, m, args, below, meth, c, Q, D, tys', A⟩ := X
  obtain ⟨hx, hb, hml, hR, hown, hts, hK, hty, hlk, hA, hst, hlt, htab⟩ := hX
  subst hR
  refine fun H locs ls hP hD hS hl => va_newa (atype := .int) hx hb (hts _ ka_int) rfl hK hP hD hS hA (a0 := (N, .inl (fun _ => 0))) (N' := N) (fun cA => by rw [vp_cell_i]; rfl) (nI_pos (by omega)) (nI_clamp (by omega)) (Nat.le_trans (Nat.mul_le_mul_right _ (Nat.le_of_lt hN)) (by decide)) hc hs hd (fun q cA' H1 hK1 hP1 hD1 hS1 => ?_)
  have e : cA' = cA := by
    have h1 := (hK.2 t0 _ ht).2
    have h2 := (hK1.2 tys.length (cA', newarray.typeOf ArrayType.int) (by simp)).2
    exact Option.some.inj (h2.symm.trans h1)
  subst e
  exact kk q H1 locs ls hP1 hD1 hS1 hl
end MNA
end
-- 22 ref22
section
/-! The reference, its contracts (rows by a program of this repository). -/
theorem nI_of3 {x : Int32} {N : Nat} (h1 : 0 ≤ x) {M : Int32} (h2 : x ≤ M) (hM : M.toInt < N := by decide) : ∃ j, j < N ∧ x = nI j := by
  obtain ⟨j, hj, rfl⟩ := nI_of (Int32.not_lt.mpr h1)
  refine ⟨j, ?_, rfl⟩
  have h3 := Int32.le_iff_toInt_le.mp h2
  rw [nI_toInt hj] at h3
  omega
theorem nI_not3 {x : Int32} {N : Nat} {M : Int32} (hM : M.toInt = (N : Int) - 1) (h : ¬ (0 ≤ x ∧ x ≤ M)) : ¬ vp_in x N := by
  intro q
  have q2 := vp_in_iff.mp q
  refine h ⟨Int32.le_iff_toInt_le.mpr (by simpa using q2.1), Int32.le_iff_toInt_le.mpr (by omega)⟩
theorem fnn {x : Int32} : ¬ f_isWithin x.toInt64 0 3 = 0 → ∃ j, j < 4 ∧ x = nI j := by
  intro h
  have h2 := Classical.not_not.mp (fun q => h ((fwi (x := x) (a' := 0) (b' := 3) (by decide) (by decide)).mpr q))
  exact nI_of3 h2.1 h2.2
theorem fnc {x : Int32} : ¬ f_isWithin x.toInt64 0 2 = 0 → ∃ j, j < 3 ∧ x = nI j := by
  intro h
  have h2 := Classical.not_not.mp (fun q => h ((fwi (x := x) (a' := 0) (b' := 2) (by decide) (by decide)).mpr q))
  exact nI_of3 (N := 3) h2.1 h2.2
theorem dX4_isNone_v0 : (cX4_isNone.data.toList.drop 0).take 16 = [26, 133, 9, 20, 0, 36, 184, 0, 38, 154, 0, 7, 4, 167, 0, 4] := by decide +kernel
theorem dX4_isNone_v1 : (cX4_isNone.data.toList.drop 16).take 16 = [3, 172] := by decide +kernel
theorem dX4_isNone_0 : decode cX4_isNone 0 = .ok (.iload_n 0, 1) := dk_26 (dq_lk dX4_isNone_v0 (r := 0) (x := 26) rfl)
theorem dX4_isNone_1 : decode cX4_isNone 1 = .ok (.i2l, 1) := dk_133 (dq_lk dX4_isNone_v0 (r := 1) (x := 133) rfl)
theorem dX4_isNone_2 : decode cX4_isNone 2 = .ok (.lconst 0, 1) := dk_9 (dq_lk dX4_isNone_v0 (r := 2) (x := 9) rfl)
theorem dX4_isNone_3 : decode cX4_isNone 3 = .ok (.ldc2_w 36, 3) := dk_20 (dq_lk dX4_isNone_v0 (r := 3) (x := 20) rfl) (dq_lk dX4_isNone_v0 (r := 4) (x := 0) rfl) (dq_lk dX4_isNone_v0 (r := 5) (x := 36) rfl)
theorem dX4_isNone_6 : decode cX4_isNone 6 = .ok (.invokestatic 38, 3) := dk_184 (dq_lk dX4_isNone_v0 (r := 6) (x := 184) rfl) (dq_lk dX4_isNone_v0 (r := 7) (x := 0) rfl) (dq_lk dX4_isNone_v0 (r := 8) (x := 38) rfl)
theorem dX4_isNone_9 : decode cX4_isNone 9 = .ok (.ifCond .ne 7, 3) := dk_154 (dq_lk dX4_isNone_v0 (r := 9) (x := 154) rfl) (dq_lk dX4_isNone_v0 (r := 10) (x := 0) rfl) (dq_lk dX4_isNone_v0 (r := 11) (x := 7) rfl) (by decide +kernel)
theorem dX4_isNone_12 : decode cX4_isNone 12 = .ok (.iconst 1, 1) := dk_4 (dq_lk dX4_isNone_v0 (r := 12) (x := 4) rfl)
theorem dX4_isNone_13 : decode cX4_isNone 13 = .ok (.goto 4, 3) := dk_167 (dq_lk dX4_isNone_v0 (r := 13) (x := 167) rfl) (dq_lk dX4_isNone_v0 (r := 14) (x := 0) rfl) (dq_lk dX4_isNone_v0 (r := 15) (x := 4) rfl) (by decide +kernel)
theorem dX4_isNone_16 : decode cX4_isNone 16 = .ok (.iconst 0, 1) := dk_3 (dq_lk dX4_isNone_v1 (r := 0) (x := 3) rfl)
theorem dX4_isNone_17 : decode cX4_isNone 17 = .ok (.ireturn, 1) := dk_172 (dq_lk dX4_isNone_v1 (r := 1) (x := 172) rfl)
theorem c_X4_isNone (tys : List (ClassId × FieldType)) (ws : va_W) (p0 : Int32) : mCt tys yX4_isNone cX4_isNone 1 (some .boolean) ⟨1, 0, 0, 25⟩ [.int p0] ws (fun v ws' => ∃ r, ((r = 0 ∧ ∃ j, j < 4 ∧ p0 = nI j) ∨ (r = 1 ∧ ¬ vp_in p0 4)) ∧ v = some (.int r) ∧ ws' = ws) mNo := by
  refine mCt.of (by decide +kernel) (Nat.le_of_ble_eq_true rfl) (fun X hX hE => ?_)
  replace hX : mOK X RX4 cX4_isNone 1 ⟨1, 0, 0, 25⟩ [] tys := hX
  refine r_iload_n hX dX4_isNone_0 rfl rfl (r_i2l hX dX4_isNone_1 (r_lconst (v := 0) hX dX4_isNone_2 (by decide) (r_ldc2 hX kc_X4_36 dX4_isNone_3 (r_callS hX (c_X4_isIn _ _ _ _ _) ks_X4_38 rfl rfl (Nat.le_of_ble_eq_true rfl) ⟨(Nat.le_of_ble_eq_true rfl), (Nat.le_of_ble_eq_true rfl)⟩ ⟨(Nat.le_of_ble_eq_true rfl), (Nat.le_of_ble_eq_true rfl)⟩ dX4_isNone_6 (fun _ _ z => False.elim z) (fun v9 ws9 h => ?_)))))
  obtain ⟨rfl, hw9⟩ := h
  subst ws9
  dsimp only [mPush]
  refine r_if_ne (tgt := 16) hX dX4_isNone_9 (by decide) (fun c => ?_) (fun c => ?_)
  · refine r_iconst (v := 0) hX dX4_isNone_16 (by decide) ?_
    exact r_zret hX hE dX4_isNone_17 (by decide) (Nat.le_of_ble_eq_true rfl) (Nat.le_of_ble_eq_true rfl) ⟨0, Or.inl ⟨rfl, fnn c⟩, rfl, rfl⟩
  · refine r_iconst (v := 1) hX dX4_isNone_12 (by decide) (r_goto (tgt := 17) hX dX4_isNone_13 (by decide) ?_)
    exact r_zret hX hE dX4_isNone_17 (by decide) (Nat.le_of_ble_eq_true rfl) (Nat.le_of_ble_eq_true rfl) ⟨1, Or.inr ⟨rfl, nI_not3 (M := 3) (by decide) ((fwi (by decide) (by decide)).mp (Classical.not_not.mp c))⟩, rfl, rfl⟩
theorem dX4_isNoClock_v0 : (cX4_isNoClock.data.toList.drop 0).take 16 = [26, 133, 9, 20, 0, 42, 184, 0, 38, 154, 0, 7, 4, 167, 0, 4] := by decide +kernel
theorem dX4_isNoClock_v1 : (cX4_isNoClock.data.toList.drop 16).take 16 = [3, 172] := by decide +kernel
theorem dX4_isNoClock_0 : decode cX4_isNoClock 0 = .ok (.iload_n 0, 1) := dk_26 (dq_lk dX4_isNoClock_v0 (r := 0) (x := 26) rfl)
theorem dX4_isNoClock_1 : decode cX4_isNoClock 1 = .ok (.i2l, 1) := dk_133 (dq_lk dX4_isNoClock_v0 (r := 1) (x := 133) rfl)
theorem dX4_isNoClock_2 : decode cX4_isNoClock 2 = .ok (.lconst 0, 1) := dk_9 (dq_lk dX4_isNoClock_v0 (r := 2) (x := 9) rfl)
theorem dX4_isNoClock_3 : decode cX4_isNoClock 3 = .ok (.ldc2_w 42, 3) := dk_20 (dq_lk dX4_isNoClock_v0 (r := 3) (x := 20) rfl) (dq_lk dX4_isNoClock_v0 (r := 4) (x := 0) rfl) (dq_lk dX4_isNoClock_v0 (r := 5) (x := 42) rfl)
theorem dX4_isNoClock_6 : decode cX4_isNoClock 6 = .ok (.invokestatic 38, 3) := dk_184 (dq_lk dX4_isNoClock_v0 (r := 6) (x := 184) rfl) (dq_lk dX4_isNoClock_v0 (r := 7) (x := 0) rfl) (dq_lk dX4_isNoClock_v0 (r := 8) (x := 38) rfl)
theorem dX4_isNoClock_9 : decode cX4_isNoClock 9 = .ok (.ifCond .ne 7, 3) := dk_154 (dq_lk dX4_isNoClock_v0 (r := 9) (x := 154) rfl) (dq_lk dX4_isNoClock_v0 (r := 10) (x := 0) rfl) (dq_lk dX4_isNoClock_v0 (r := 11) (x := 7) rfl) (by decide +kernel)
theorem dX4_isNoClock_12 : decode cX4_isNoClock 12 = .ok (.iconst 1, 1) := dk_4 (dq_lk dX4_isNoClock_v0 (r := 12) (x := 4) rfl)
theorem dX4_isNoClock_13 : decode cX4_isNoClock 13 = .ok (.goto 4, 3) := dk_167 (dq_lk dX4_isNoClock_v0 (r := 13) (x := 167) rfl) (dq_lk dX4_isNoClock_v0 (r := 14) (x := 0) rfl) (dq_lk dX4_isNoClock_v0 (r := 15) (x := 4) rfl) (by decide +kernel)
theorem dX4_isNoClock_16 : decode cX4_isNoClock 16 = .ok (.iconst 0, 1) := dk_3 (dq_lk dX4_isNoClock_v1 (r := 0) (x := 3) rfl)
theorem dX4_isNoClock_17 : decode cX4_isNoClock 17 = .ok (.ireturn, 1) := dk_172 (dq_lk dX4_isNoClock_v1 (r := 1) (x := 172) rfl)
theorem c_X4_isNoClock (tys : List (ClassId × FieldType)) (ws : va_W) (p0 : Int32) : mCt tys yX4_isNoClock cX4_isNoClock 1 (some .boolean) ⟨1, 0, 0, 25⟩ [.int p0] ws (fun v ws' => ∃ r, ((r = 0 ∧ ∃ j, j < 3 ∧ p0 = nI j) ∨ (r = 1 ∧ ¬ vp_in p0 3)) ∧ v = some (.int r) ∧ ws' = ws) mNo := by
  refine mCt.of (by decide +kernel) (Nat.le_of_ble_eq_true rfl) (fun X hX hE => ?_)
  replace hX : mOK X RX4 cX4_isNoClock 1 ⟨1, 0, 0, 25⟩ [] tys := hX
  refine r_iload_n hX dX4_isNoClock_0 rfl rfl (r_i2l hX dX4_isNoClock_1 (r_lconst (v := 0) hX dX4_isNoClock_2 (by decide) (r_ldc2 hX kc_X4_42 dX4_isNoClock_3 (r_callS hX (c_X4_isIn _ _ _ _ _) ks_X4_38 rfl rfl (Nat.le_of_ble_eq_true rfl) ⟨(Nat.le_of_ble_eq_true rfl), (Nat.le_of_ble_eq_true rfl)⟩ ⟨(Nat.le_of_ble_eq_true rfl), (Nat.le_of_ble_eq_true rfl)⟩ dX4_isNoClock_6 (fun _ _ z => False.elim z) (fun v9 ws9 h => ?_)))))
  obtain ⟨rfl, hw9⟩ := h
  subst ws9
  dsimp only [mPush]
  refine r_if_ne (tgt := 16) hX dX4_isNoClock_9 (by decide) (fun c => ?_) (fun c => ?_)
  · refine r_iconst (v := 0) hX dX4_isNoClock_16 (by decide) ?_
    exact r_zret hX hE dX4_isNoClock_17 (by decide) (Nat.le_of_ble_eq_true rfl) (Nat.le_of_ble_eq_true rfl) ⟨0, Or.inl ⟨rfl, fnc c⟩, rfl, rfl⟩
  · refine r_iconst (v := 1) hX dX4_isNoClock_12 (by decide) (r_goto (tgt := 17) hX dX4_isNoClock_13 (by decide) ?_)
    exact r_zret hX hE dX4_isNoClock_17 (by decide) (Nat.le_of_ble_eq_true rfl) (Nat.le_of_ble_eq_true rfl) ⟨1, Or.inr ⟨rfl, nI_not3 (M := 2) (by decide) ((fwi (by decide) (by decide)).mp (Classical.not_not.mp c))⟩, rfl, rfl⟩
theorem mnone0 {r : Int32} {A B : Prop} (h : (r = 0 ∧ A) ∨ (r = 1 ∧ B)) (c : r = 0) : A := by
  rcases h with h | h
  · exact h.2
  · rw [h.1] at c
    exact absurd c (by decide)
theorem dX4_isStopped_v0 : (cX4_isStopped.data.toList.drop 0).take 16 = [42, 27, 153, 0, 7, 4, 167, 0, 12, 28, 153, 0, 7, 5, 167, 0] := by decide +kernel
theorem dX4_isStopped_v1 : (cX4_isStopped.data.toList.drop 16).take 16 = [4, 3, 181, 0, 29, 42, 180, 0, 29, 158, 0, 7, 4, 167, 0, 4] := by decide +kernel
theorem dX4_isStopped_v2 : (cX4_isStopped.data.toList.drop 32).take 16 = [3, 172] := by decide +kernel
theorem dX4_isStopped_0 : decode cX4_isStopped 0 = .ok (.aload_n 0, 1) := dk_42 (dq_lk dX4_isStopped_v0 (r := 0) (x := 42) rfl)
theorem dX4_isStopped_1 : decode cX4_isStopped 1 = .ok (.iload_n 1, 1) := dk_27 (dq_lk dX4_isStopped_v0 (r := 1) (x := 27) rfl)
theorem dX4_isStopped_2 : decode cX4_isStopped 2 = .ok (.ifCond .eq 7, 3) := dk_153 (dq_lk dX4_isStopped_v0 (r := 2) (x := 153) rfl) (dq_lk dX4_isStopped_v0 (r := 3) (x := 0) rfl) (dq_lk dX4_isStopped_v0 (r := 4) (x := 7) rfl) (by decide +kernel)
theorem dX4_isStopped_5 : decode cX4_isStopped 5 = .ok (.iconst 1, 1) := dk_4 (dq_lk dX4_isStopped_v0 (r := 5) (x := 4) rfl)
theorem dX4_isStopped_6 : decode cX4_isStopped 6 = .ok (.goto 12, 3) := dk_167 (dq_lk dX4_isStopped_v0 (r := 6) (x := 167) rfl) (dq_lk dX4_isStopped_v0 (r := 7) (x := 0) rfl) (dq_lk dX4_isStopped_v0 (r := 8) (x := 12) rfl) (by decide +kernel)
theorem dX4_isStopped_9 : decode cX4_isStopped 9 = .ok (.iload_n 2, 1) := dk_28 (dq_lk dX4_isStopped_v0 (r := 9) (x := 28) rfl)
theorem dX4_isStopped_10 : decode cX4_isStopped 10 = .ok (.ifCond .eq 7, 3) := dk_153 (dq_lk dX4_isStopped_v0 (r := 10) (x := 153) rfl) (dq_lk dX4_isStopped_v0 (r := 11) (x := 0) rfl) (dq_lk dX4_isStopped_v0 (r := 12) (x := 7) rfl) (by decide +kernel)
theorem dX4_isStopped_13 : decode cX4_isStopped 13 = .ok (.iconst 2, 1) := dk_5 (dq_lk dX4_isStopped_v0 (r := 13) (x := 5) rfl)
theorem dX4_isStopped_14 : decode cX4_isStopped 14 = .ok (.goto 4, 3) := dk_167 (dq_lk dX4_isStopped_v0 (r := 14) (x := 167) rfl) (dq_lk dX4_isStopped_v0 (r := 15) (x := 0) rfl) (dq_lk dX4_isStopped_v1 (r := 0) (x := 4) rfl) (by decide +kernel)
theorem dX4_isStopped_17 : decode cX4_isStopped 17 = .ok (.iconst 0, 1) := dk_3 (dq_lk dX4_isStopped_v1 (r := 1) (x := 3) rfl)
theorem dX4_isStopped_18 : decode cX4_isStopped 18 = .ok (.putfield 29, 3) := dk_181 (dq_lk dX4_isStopped_v1 (r := 2) (x := 181) rfl) (dq_lk dX4_isStopped_v1 (r := 3) (x := 0) rfl) (dq_lk dX4_isStopped_v1 (r := 4) (x := 29) rfl)
theorem dX4_isStopped_21 : decode cX4_isStopped 21 = .ok (.aload_n 0, 1) := dk_42 (dq_lk dX4_isStopped_v1 (r := 5) (x := 42) rfl)
theorem dX4_isStopped_22 : decode cX4_isStopped 22 = .ok (.getfield 29, 3) := dk_180 (dq_lk dX4_isStopped_v1 (r := 6) (x := 180) rfl) (dq_lk dX4_isStopped_v1 (r := 7) (x := 0) rfl) (dq_lk dX4_isStopped_v1 (r := 8) (x := 29) rfl)
theorem dX4_isStopped_25 : decode cX4_isStopped 25 = .ok (.ifCond .le 7, 3) := dk_158 (dq_lk dX4_isStopped_v1 (r := 9) (x := 158) rfl) (dq_lk dX4_isStopped_v1 (r := 10) (x := 0) rfl) (dq_lk dX4_isStopped_v1 (r := 11) (x := 7) rfl) (by decide +kernel)
theorem dX4_isStopped_28 : decode cX4_isStopped 28 = .ok (.iconst 1, 1) := dk_4 (dq_lk dX4_isStopped_v1 (r := 12) (x := 4) rfl)
theorem dX4_isStopped_29 : decode cX4_isStopped 29 = .ok (.goto 4, 3) := dk_167 (dq_lk dX4_isStopped_v1 (r := 13) (x := 167) rfl) (dq_lk dX4_isStopped_v1 (r := 14) (x := 0) rfl) (dq_lk dX4_isStopped_v1 (r := 15) (x := 4) rfl) (by decide +kernel)
theorem dX4_isStopped_32 : decode cX4_isStopped 32 = .ok (.iconst 0, 1) := dk_3 (dq_lk dX4_isStopped_v2 (r := 0) (x := 3) rfl)
theorem dX4_isStopped_33 : decode cX4_isStopped 33 = .ok (.ireturn, 1) := dk_172 (dq_lk dX4_isStopped_v2 (r := 1) (x := 172) rfl)
def f_stop (a b : Int32) : Int32 := if a = 0 then (if b = 0 then 0 else 2) else 1
theorem c_X4_isStopped (ad ae : Nat → Nat) (cs : ClassId × ClassId × ClassId) (K : mK) (J : mJ) (rest : va_W) (p0 p1 : Int32) : mCt (mTy cs) yX4_isStopped cX4_isStopped 3 (some .boolean) ⟨0, 0, 0, 0⟩ [.ref (ae 0), .int p0, .int p1] (mRw ad ae cs K J rest) (fun v ws' => ∃ r J', ((r = 0 ∧ p0 = 0 ∧ p1 = 0) ∨ (r = 1 ∧ ¬ (p0 = 0 ∧ p1 = 0))) ∧ J'.1.1 = f_stop p0 p1 ∧ J'.1.2 = J.1.2 ∧ J'.2 = J.2 ∧ v = some (.int r) ∧ ws' = mRw ad ae cs K J' rest) mNo := by
  refine mCt.of (by decide +kernel) (Nat.le_of_ble_eq_true rfl) (fun X hX hE => ?_)
  replace hX : mOK X RX4 cX4_isStopped 3 ⟨0, 0, 0, 0⟩ [] (mTy cs) := hX
  have fin : ∀ lv x, lget lv 0 = some (.ref (ae 0)) → f_stop p0 p1 = x → ((¬ (p0 = 0 ∧ p1 = 0)) ∧ 0 < x ∨ (p0 = 0 ∧ p1 = 0) ∧ ¬ 0 < x) → mV X 18 lv [.int x, .ref (ae 0)] (mRw ad ae cs K J rest) 0 0 := fun lv x h0 hx hs => by
    refine r_put hX kf_X4_29 14 rfl rfl rfl rfl (Nat.le_of_ble_eq_true rfl) dX4_isStopped_18 (r_aload_n hX dX4_isStopped_21 rfl h0 (r_get hX kf_X4_29 14 rfl rfl dX4_isStopped_22 (r_if_le (tgt := 32) hX dX4_isStopped_25 (by decide) (fun c => ?_) (fun c => ?_))))
    · refine r_iconst (v := 0) hX dX4_isStopped_32 (by decide) (r_zret hX hE dX4_isStopped_33 (by decide) (Nat.le_of_ble_eq_true rfl) (Nat.le_of_ble_eq_true rfl) ⟨0, ((f_stop p0 p1, J.1.2), J.2), Or.inl ⟨rfl, ?_⟩, rfl, rfl, rfl, rfl, by rw [hx]; rfl⟩)
      rcases hs with hs | hs
      · exact absurd hs.2 (Int32.not_lt.mpr c)
      · exact hs.1
    · refine r_iconst (v := 1) hX dX4_isStopped_28 (by decide) (r_goto (tgt := 33) hX dX4_isStopped_29 (by decide) (r_zret hX hE dX4_isStopped_33 (by decide) (Nat.le_of_ble_eq_true rfl) (Nat.le_of_ble_eq_true rfl) ⟨1, ((f_stop p0 p1, J.1.2), J.2), Or.inr ⟨rfl, ?_⟩, rfl, rfl, rfl, rfl, by rw [hx]; rfl⟩))
      rcases hs with hs | hs
      · exact hs.1
      · exact absurd (Int32.not_le.mp c) hs.2
  refine r_aload_n hX dX4_isStopped_0 rfl rfl (r_iload_n hX dX4_isStopped_1 rfl rfl (r_if_eq (tgt := 9) hX dX4_isStopped_2 (by decide) (fun c => ?_) (fun c => ?_)))
  · refine r_iload_n hX dX4_isStopped_9 rfl rfl (r_if_eq (tgt := 17) hX dX4_isStopped_10 (by decide) (fun c2 => ?_) (fun c2 => ?_))
    · refine r_iconst (v := 0) hX dX4_isStopped_17 (by decide) ?_
      exact fin _ 0 rfl (by simp [f_stop, c, c2]) (Or.inr ⟨⟨c, c2⟩, by decide⟩)
    · refine r_iconst (v := 2) hX dX4_isStopped_13 (by decide) (r_goto (tgt := 18) hX dX4_isStopped_14 (by decide) ?_)
      exact fin _ 2 rfl (by simp [f_stop, c, c2]) (Or.inl ⟨fun q => c2 q.2, by decide⟩)
  · refine r_iconst (v := 1) hX dX4_isStopped_5 (by decide) (r_goto (tgt := 18) hX dX4_isStopped_6 (by decide) ?_)
    exact fin _ 1 rfl (by simp [f_stop, c]) (Or.inl ⟨fun q => c q.1, by decide⟩)
theorem dX4_whole_v0 : (cX4_whole.data.toList.drop 0).take 16 = [30, 9, 148, 155, 0, 9, 30, 32, 109, 167, 0, 12, 30, 117, 32, 97] := by decide +kernel
theorem dX4_whole_v1 : (cX4_whole.data.toList.drop 16).take 16 = [10, 101, 32, 109, 117, 173] := by decide +kernel
theorem dX4_whole_0 : decode cX4_whole 0 = .ok (.lload_n 0, 1) := dk_30 (dq_lk dX4_whole_v0 (r := 0) (x := 30) rfl)
theorem dX4_whole_1 : decode cX4_whole 1 = .ok (.lconst 0, 1) := dk_9 (dq_lk dX4_whole_v0 (r := 1) (x := 9) rfl)
theorem dX4_whole_2 : decode cX4_whole 2 = .ok (.lcmp, 1) := dk_148 (dq_lk dX4_whole_v0 (r := 2) (x := 148) rfl)
theorem dX4_whole_3 : decode cX4_whole 3 = .ok (.ifCond .lt 9, 3) := dk_155 (dq_lk dX4_whole_v0 (r := 3) (x := 155) rfl) (dq_lk dX4_whole_v0 (r := 4) (x := 0) rfl) (dq_lk dX4_whole_v0 (r := 5) (x := 9) rfl) (by decide +kernel)
theorem dX4_whole_6 : decode cX4_whole 6 = .ok (.lload_n 0, 1) := dk_30 (dq_lk dX4_whole_v0 (r := 6) (x := 30) rfl)
theorem dX4_whole_7 : decode cX4_whole 7 = .ok (.lload_n 2, 1) := dk_32 (dq_lk dX4_whole_v0 (r := 7) (x := 32) rfl)
theorem dX4_whole_8 : decode cX4_whole 8 = .ok (.ldiv, 1) := dk_109 (dq_lk dX4_whole_v0 (r := 8) (x := 109) rfl)
theorem dX4_whole_9 : decode cX4_whole 9 = .ok (.goto 12, 3) := dk_167 (dq_lk dX4_whole_v0 (r := 9) (x := 167) rfl) (dq_lk dX4_whole_v0 (r := 10) (x := 0) rfl) (dq_lk dX4_whole_v0 (r := 11) (x := 12) rfl) (by decide +kernel)
theorem dX4_whole_12 : decode cX4_whole 12 = .ok (.lload_n 0, 1) := dk_30 (dq_lk dX4_whole_v0 (r := 12) (x := 30) rfl)
theorem dX4_whole_13 : decode cX4_whole 13 = .ok (.lneg, 1) := dk_117 (dq_lk dX4_whole_v0 (r := 13) (x := 117) rfl)
theorem dX4_whole_14 : decode cX4_whole 14 = .ok (.lload_n 2, 1) := dk_32 (dq_lk dX4_whole_v0 (r := 14) (x := 32) rfl)
theorem dX4_whole_15 : decode cX4_whole 15 = .ok (.ladd, 1) := dk_97 (dq_lk dX4_whole_v0 (r := 15) (x := 97) rfl)
theorem dX4_whole_16 : decode cX4_whole 16 = .ok (.lconst 1, 1) := dk_10 (dq_lk dX4_whole_v1 (r := 0) (x := 10) rfl)
theorem dX4_whole_17 : decode cX4_whole 17 = .ok (.lsub, 1) := dk_101 (dq_lk dX4_whole_v1 (r := 1) (x := 101) rfl)
theorem dX4_whole_18 : decode cX4_whole 18 = .ok (.lload_n 2, 1) := dk_32 (dq_lk dX4_whole_v1 (r := 2) (x := 32) rfl)
theorem dX4_whole_19 : decode cX4_whole 19 = .ok (.ldiv, 1) := dk_109 (dq_lk dX4_whole_v1 (r := 3) (x := 109) rfl)
theorem dX4_whole_20 : decode cX4_whole 20 = .ok (.lneg, 1) := dk_117 (dq_lk dX4_whole_v1 (r := 4) (x := 117) rfl)
theorem dX4_whole_21 : decode cX4_whole 21 = .ok (.lreturn, 1) := dk_173 (dq_lk dX4_whole_v1 (r := 5) (x := 173) rfl)
theorem dX4_rest_v0 : (cX4_rest.data.toList.drop 0).take 16 = [30, 32, 30, 32, 184, 0, 92, 105, 101, 136, 172] := by decide +kernel
theorem dX4_rest_0 : decode cX4_rest 0 = .ok (.lload_n 0, 1) := dk_30 (dq_lk dX4_rest_v0 (r := 0) (x := 30) rfl)
theorem dX4_rest_1 : decode cX4_rest 1 = .ok (.lload_n 2, 1) := dk_32 (dq_lk dX4_rest_v0 (r := 1) (x := 32) rfl)
theorem dX4_rest_2 : decode cX4_rest 2 = .ok (.lload_n 0, 1) := dk_30 (dq_lk dX4_rest_v0 (r := 2) (x := 30) rfl)
theorem dX4_rest_3 : decode cX4_rest 3 = .ok (.lload_n 2, 1) := dk_32 (dq_lk dX4_rest_v0 (r := 3) (x := 32) rfl)
theorem dX4_rest_4 : decode cX4_rest 4 = .ok (.invokestatic 92, 3) := dk_184 (dq_lk dX4_rest_v0 (r := 4) (x := 184) rfl) (dq_lk dX4_rest_v0 (r := 5) (x := 0) rfl) (dq_lk dX4_rest_v0 (r := 6) (x := 92) rfl)
theorem dX4_rest_7 : decode cX4_rest 7 = .ok (.lmul, 1) := dk_105 (dq_lk dX4_rest_v0 (r := 7) (x := 105) rfl)
theorem dX4_rest_8 : decode cX4_rest 8 = .ok (.lsub, 1) := dk_101 (dq_lk dX4_rest_v0 (r := 8) (x := 101) rfl)
theorem dX4_rest_9 : decode cX4_rest 9 = .ok (.l2i, 1) := dk_136 (dq_lk dX4_rest_v0 (r := 9) (x := 136) rfl)
theorem dX4_rest_10 : decode cX4_rest 10 = .ok (.ireturn, 1) := dk_172 (dq_lk dX4_rest_v0 (r := 10) (x := 172) rfl)
theorem dX4_isDay_v0 : (cX4_isDay.data.toList.drop 0).take 16 = [30, 17, 7, 118, 184, 0, 52, 133, 17, 7, 239, 184, 0, 52, 4, 100] := by decide +kernel
theorem dX4_isDay_v1 : (cX4_isDay.data.toList.drop 16).take 16 = [133, 184, 0, 38, 172] := by decide +kernel
theorem dX4_isDay_0 : decode cX4_isDay 0 = .ok (.lload_n 0, 1) := dk_30 (dq_lk dX4_isDay_v0 (r := 0) (x := 30) rfl)
theorem dX4_isDay_1 : decode cX4_isDay 1 = .ok (.sipush 1910, 3) := dk_17 (dq_lk dX4_isDay_v0 (r := 1) (x := 17) rfl) (dq_lk dX4_isDay_v0 (r := 2) (x := 7) rfl) (dq_lk dX4_isDay_v0 (r := 3) (x := 118) rfl) (by decide +kernel)
theorem dX4_isDay_4 : decode cX4_isDay 4 = .ok (.invokestatic 52, 3) := dk_184 (dq_lk dX4_isDay_v0 (r := 4) (x := 184) rfl) (dq_lk dX4_isDay_v0 (r := 5) (x := 0) rfl) (dq_lk dX4_isDay_v0 (r := 6) (x := 52) rfl)
theorem dX4_isDay_7 : decode cX4_isDay 7 = .ok (.i2l, 1) := dk_133 (dq_lk dX4_isDay_v0 (r := 7) (x := 133) rfl)
theorem dX4_isDay_8 : decode cX4_isDay 8 = .ok (.sipush 2031, 3) := dk_17 (dq_lk dX4_isDay_v0 (r := 8) (x := 17) rfl) (dq_lk dX4_isDay_v0 (r := 9) (x := 7) rfl) (dq_lk dX4_isDay_v0 (r := 10) (x := 239) rfl) (by decide +kernel)
theorem dX4_isDay_11 : decode cX4_isDay 11 = .ok (.invokestatic 52, 3) := dk_184 (dq_lk dX4_isDay_v0 (r := 11) (x := 184) rfl) (dq_lk dX4_isDay_v0 (r := 12) (x := 0) rfl) (dq_lk dX4_isDay_v0 (r := 13) (x := 52) rfl)
theorem dX4_isDay_14 : decode cX4_isDay 14 = .ok (.iconst 1, 1) := dk_4 (dq_lk dX4_isDay_v0 (r := 14) (x := 4) rfl)
theorem dX4_isDay_15 : decode cX4_isDay 15 = .ok (.isub, 1) := dk_100 (dq_lk dX4_isDay_v0 (r := 15) (x := 100) rfl)
theorem dX4_isDay_16 : decode cX4_isDay 16 = .ok (.i2l, 1) := dk_133 (dq_lk dX4_isDay_v1 (r := 0) (x := 133) rfl)
theorem dX4_isDay_17 : decode cX4_isDay 17 = .ok (.invokestatic 38, 3) := dk_184 (dq_lk dX4_isDay_v1 (r := 1) (x := 184) rfl) (dq_lk dX4_isDay_v1 (r := 2) (x := 0) rfl) (dq_lk dX4_isDay_v1 (r := 3) (x := 38) rfl)
theorem dX4_isDay_20 : decode cX4_isDay 20 = .ok (.ireturn, 1) := dk_172 (dq_lk dX4_isDay_v1 (r := 4) (x := 172) rfl)
theorem dX4_isThere_v0 : (cX4_isThere.data.toList.drop 0).take 16 = [26, 133, 20, 0, 147, 20, 0, 149, 184, 0, 38, 153, 0, 34, 27, 133] := by decide +kernel
theorem dX4_isThere_v1 : (cX4_isThere.data.toList.drop 16).take 16 = [10, 20, 0, 151, 184, 0, 38, 153, 0, 22, 28, 133, 10, 26, 27, 184] := by decide +kernel
theorem dX4_isThere_v2 : (cX4_isThere.data.toList.drop 32).take 16 = [0, 55, 133, 184, 0, 38, 153, 0, 7, 4, 167, 0, 4, 3, 172] := by decide +kernel
theorem dX4_isThere_0 : decode cX4_isThere 0 = .ok (.iload_n 0, 1) := dk_26 (dq_lk dX4_isThere_v0 (r := 0) (x := 26) rfl)
theorem dX4_isThere_1 : decode cX4_isThere 1 = .ok (.i2l, 1) := dk_133 (dq_lk dX4_isThere_v0 (r := 1) (x := 133) rfl)
theorem dX4_isThere_2 : decode cX4_isThere 2 = .ok (.ldc2_w 147, 3) := dk_20 (dq_lk dX4_isThere_v0 (r := 2) (x := 20) rfl) (dq_lk dX4_isThere_v0 (r := 3) (x := 0) rfl) (dq_lk dX4_isThere_v0 (r := 4) (x := 147) rfl)
theorem dX4_isThere_5 : decode cX4_isThere 5 = .ok (.ldc2_w 149, 3) := dk_20 (dq_lk dX4_isThere_v0 (r := 5) (x := 20) rfl) (dq_lk dX4_isThere_v0 (r := 6) (x := 0) rfl) (dq_lk dX4_isThere_v0 (r := 7) (x := 149) rfl)
theorem dX4_isThere_8 : decode cX4_isThere 8 = .ok (.invokestatic 38, 3) := dk_184 (dq_lk dX4_isThere_v0 (r := 8) (x := 184) rfl) (dq_lk dX4_isThere_v0 (r := 9) (x := 0) rfl) (dq_lk dX4_isThere_v0 (r := 10) (x := 38) rfl)
theorem dX4_isThere_11 : decode cX4_isThere 11 = .ok (.ifCond .eq 34, 3) := dk_153 (dq_lk dX4_isThere_v0 (r := 11) (x := 153) rfl) (dq_lk dX4_isThere_v0 (r := 12) (x := 0) rfl) (dq_lk dX4_isThere_v0 (r := 13) (x := 34) rfl) (by decide +kernel)
theorem dX4_isThere_14 : decode cX4_isThere 14 = .ok (.iload_n 1, 1) := dk_27 (dq_lk dX4_isThere_v0 (r := 14) (x := 27) rfl)
theorem dX4_isThere_15 : decode cX4_isThere 15 = .ok (.i2l, 1) := dk_133 (dq_lk dX4_isThere_v0 (r := 15) (x := 133) rfl)
theorem dX4_isThere_16 : decode cX4_isThere 16 = .ok (.lconst 1, 1) := dk_10 (dq_lk dX4_isThere_v1 (r := 0) (x := 10) rfl)
theorem dX4_isThere_17 : decode cX4_isThere 17 = .ok (.ldc2_w 151, 3) := dk_20 (dq_lk dX4_isThere_v1 (r := 1) (x := 20) rfl) (dq_lk dX4_isThere_v1 (r := 2) (x := 0) rfl) (dq_lk dX4_isThere_v1 (r := 3) (x := 151) rfl)
theorem dX4_isThere_20 : decode cX4_isThere 20 = .ok (.invokestatic 38, 3) := dk_184 (dq_lk dX4_isThere_v1 (r := 4) (x := 184) rfl) (dq_lk dX4_isThere_v1 (r := 5) (x := 0) rfl) (dq_lk dX4_isThere_v1 (r := 6) (x := 38) rfl)
theorem dX4_isThere_23 : decode cX4_isThere 23 = .ok (.ifCond .eq 22, 3) := dk_153 (dq_lk dX4_isThere_v1 (r := 7) (x := 153) rfl) (dq_lk dX4_isThere_v1 (r := 8) (x := 0) rfl) (dq_lk dX4_isThere_v1 (r := 9) (x := 22) rfl) (by decide +kernel)
theorem dX4_isThere_26 : decode cX4_isThere 26 = .ok (.iload_n 2, 1) := dk_28 (dq_lk dX4_isThere_v1 (r := 10) (x := 28) rfl)
theorem dX4_isThere_27 : decode cX4_isThere 27 = .ok (.i2l, 1) := dk_133 (dq_lk dX4_isThere_v1 (r := 11) (x := 133) rfl)
theorem dX4_isThere_28 : decode cX4_isThere 28 = .ok (.lconst 1, 1) := dk_10 (dq_lk dX4_isThere_v1 (r := 12) (x := 10) rfl)
theorem dX4_isThere_29 : decode cX4_isThere 29 = .ok (.iload_n 0, 1) := dk_26 (dq_lk dX4_isThere_v1 (r := 13) (x := 26) rfl)
theorem dX4_isThere_30 : decode cX4_isThere 30 = .ok (.iload_n 1, 1) := dk_27 (dq_lk dX4_isThere_v1 (r := 14) (x := 27) rfl)
theorem dX4_isThere_31 : decode cX4_isThere 31 = .ok (.invokestatic 55, 3) := dk_184 (dq_lk dX4_isThere_v1 (r := 15) (x := 184) rfl) (dq_lk dX4_isThere_v2 (r := 0) (x := 0) rfl) (dq_lk dX4_isThere_v2 (r := 1) (x := 55) rfl)
theorem dX4_isThere_34 : decode cX4_isThere 34 = .ok (.i2l, 1) := dk_133 (dq_lk dX4_isThere_v2 (r := 2) (x := 133) rfl)
theorem dX4_isThere_35 : decode cX4_isThere 35 = .ok (.invokestatic 38, 3) := dk_184 (dq_lk dX4_isThere_v2 (r := 3) (x := 184) rfl) (dq_lk dX4_isThere_v2 (r := 4) (x := 0) rfl) (dq_lk dX4_isThere_v2 (r := 5) (x := 38) rfl)
theorem dX4_isThere_38 : decode cX4_isThere 38 = .ok (.ifCond .eq 7, 3) := dk_153 (dq_lk dX4_isThere_v2 (r := 6) (x := 153) rfl) (dq_lk dX4_isThere_v2 (r := 7) (x := 0) rfl) (dq_lk dX4_isThere_v2 (r := 8) (x := 7) rfl) (by decide +kernel)
theorem dX4_isThere_41 : decode cX4_isThere 41 = .ok (.iconst 1, 1) := dk_4 (dq_lk dX4_isThere_v2 (r := 9) (x := 4) rfl)
theorem dX4_isThere_42 : decode cX4_isThere 42 = .ok (.goto 4, 3) := dk_167 (dq_lk dX4_isThere_v2 (r := 10) (x := 167) rfl) (dq_lk dX4_isThere_v2 (r := 11) (x := 0) rfl) (dq_lk dX4_isThere_v2 (r := 12) (x := 4) rfl) (by decide +kernel)
theorem dX4_isThere_45 : decode cX4_isThere 45 = .ok (.iconst 0, 1) := dk_3 (dq_lk dX4_isThere_v2 (r := 13) (x := 3) rfl)
theorem dX4_isThere_46 : decode cX4_isThere 46 = .ok (.ireturn, 1) := dk_172 (dq_lk dX4_isThere_v2 (r := 14) (x := 172) rfl)
abbrev lZ (z : Int) : Int64 := Int64.ofInt z
theorem lZ_toInt {z : Int} (h1 : -9223372036854775808 ≤ z) (h2 : z < 9223372036854775808) : (lZ z).toInt = z := Int64.toInt_ofInt_of_le (by omega) (by omega)
theorem lZ_add (a b : Int) : lZ a + lZ b = lZ (a + b) := (Int64.ofInt_add a b).symm
theorem lZ_sub (a b : Int) : lZ a - lZ b = lZ (a - b) := (Int64.ofInt_sub a b).symm
theorem lZ_mul (a b : Int) : lZ a * lZ b = lZ (a * b) := (Int64.ofInt_mul a b).symm
theorem lZ_neg (a : Int) : -lZ a = lZ (-a) := Int64.neg_ofInt
theorem lZ_lt0 {a : Int} (h1 : -9223372036854775808 ≤ a) (h2 : a < 9223372036854775808) : lZ a < 0 ↔ a < 0 := by
  rw [Int64.lt_iff_toInt_lt, lZ_toInt h1 h2]
  rfl
theorem lZ_ne0 {b : Int} (h1 : 1 ≤ b) (h2 : b < 9223372036854775808) : ¬ lZ b = 0 := by
  intro h
  have h3 := congrArg Int64.toInt h
  rw [lZ_toInt (by omega) h2] at h3
  have h4 : (0 : Int64).toInt = 0 := rfl
  omega
theorem lZ_div {a b : Int} (h1 : 0 ≤ a) (h2 : a < 9223372036854775808) (h3 : 1 ≤ b) (h4 : b < 9223372036854775808) : lZ a / lZ b = lZ (a / b) := by
  apply Int64.toInt_inj.mp
  have hm : lZ a ≠ Int64.minValue := by
    intro h
    have h5 := congrArg Int64.toInt h
    rw [lZ_toInt (by omega) h2] at h5
    have h6 : Int64.minValue.toInt = -9223372036854775808 := rfl
    omega
  have hq : 0 ≤ a / b ∧ a / b ≤ a := ⟨Int.ediv_nonneg h1 (by omega), Int.ediv_le_self b h1⟩
  rw [Int64.toInt_div_of_ne_left _ _ hm, lZ_toInt (by omega) h2, lZ_toInt (by omega) h4, lZ_toInt (by omega) (by omega), Int.tdiv_eq_ediv_of_nonneg h1]
theorem fl_neg {a b : Int} (hb : 1 ≤ b) : -((-a + b - 1) / b) = a / b := by
  have h := Int.emod_add_mul_ediv a b
  have h1 := Int.emod_nonneg a (show b ≠ 0 by omega)
  have h2 := Int.emod_lt_of_pos a (show 0 < b by omega)
  have e : -a + b - 1 = (b - 1 - a % b) + b * (-(a / b)) := by
    rw [Int.mul_neg]
    omega
  rw [e, Int.add_mul_ediv_left _ _ (show b ≠ 0 by omega), Int.ediv_eq_zero_of_lt (by omega) (by omega)]
  omega
theorem c_X4_whole_x (tys : List (ClassId × FieldType)) (ws : va_W) (a b : Int) (ha1 : -4000000000000000000 ≤ a) (ha2 : a ≤ 4000000000000000000) (hb1 : 1 ≤ b) (hb2 : b ≤ 1000000000000) : mCt tys yX4_whole cX4_whole 4 (some .long) ⟨0, 0, 0, 0⟩ [.long (lZ a), .long (lZ b)] ws (fun v ws' => v = some (.long (lZ (a / b))) ∧ ws' = ws) mNo := by
  refine mCt.of (by decide +kernel) (Nat.le_of_ble_eq_true rfl) (fun X hX hE => ?_)
  replace hX : mOK X RX4 cX4_whole 4 ⟨0, 0, 0, 0⟩ [] tys := hX
  have hne := lZ_ne0 hb1 (by omega)
  refine r_lload_n hX dX4_whole_0 rfl rfl (r_lconst (v := 0) hX dX4_whole_1 (by decide) (r_lcmp hX dX4_whole_2 (r_if_lt (tgt := 12) hX dX4_whole_3 (by decide) (fun c => ?_) (fun c => ?_))))
  · have hn := (lZ_lt0 (by omega) (by omega)).mp (lg_lt.mp c)
    refine r_lload_n hX dX4_whole_12 rfl rfl (r_lneg hX dX4_whole_13 (r_lload_n hX dX4_whole_14 rfl rfl (r_ladd hX dX4_whole_15 (r_lconst (v := 1) hX dX4_whole_16 (by decide) (r_lsub hX dX4_whole_17 (r_lload_n hX dX4_whole_18 rfl rfl (r_ldiv hX dX4_whole_19 hne ?_)))))))
    refine r_lneg hX dX4_whole_20 (r_lret hX hE dX4_whole_21 (Nat.le_of_ble_eq_true rfl) (Nat.le_of_ble_eq_true rfl) ⟨?_, rfl⟩)
    rw [show (1 : Int64) = lZ 1 from rfl, lZ_neg, lZ_add, lZ_sub, lZ_div (by omega) (by omega) hb1 (by omega), lZ_neg, fl_neg hb1]
  · have hn : 0 ≤ a := by
      by_cases q : a < 0
      · exact absurd (lg_lt.mpr ((lZ_lt0 (by omega) (by omega)).mpr q)) c
      · omega
    refine r_lload_n hX dX4_whole_6 rfl rfl (r_lload_n hX dX4_whole_7 rfl rfl (r_ldiv hX dX4_whole_8 hne (r_goto (tgt := 21) hX dX4_whole_9 (by decide) (r_lret hX hE dX4_whole_21 (Nat.le_of_ble_eq_true rfl) (Nat.le_of_ble_eq_true rfl) ⟨?_, rfl⟩))))
    rw [lZ_div hn (by omega) hb1 (by omega)]
theorem c_X4_rest_x (tys : List (ClassId × FieldType)) (ws : va_W) (a b : Int) (ha1 : -4000000000000000000 ≤ a) (ha2 : a ≤ 4000000000000000000) (hb1 : 1 ≤ b) (hb2 : b ≤ 1000000000000) : mCt tys yX4_rest cX4_rest 4 (some .int) ⟨1, 0, 0, 23⟩ [.long (lZ a), .long (lZ b)] ws (fun v ws' => v = some (.int (iZ (a % b))) ∧ ws' = ws) mNo := by
  refine mCt.of (by decide +kernel) (Nat.le_of_ble_eq_true rfl) (fun X hX hE => ?_)
  replace hX : mOK X RX4 cX4_rest 4 ⟨1, 0, 0, 23⟩ [] tys := hX
  refine r_lload_n hX dX4_rest_0 rfl rfl (r_lload_n hX dX4_rest_1 rfl rfl (r_lload_n hX dX4_rest_2 rfl rfl (r_lload_n hX dX4_rest_3 rfl rfl (r_callS hX (c_X4_whole_x _ _ a b ha1 ha2 hb1 hb2) ks_X4_92 rfl rfl (Nat.le_of_ble_eq_true rfl) ⟨(Nat.le_of_ble_eq_true rfl), (Nat.le_of_ble_eq_true rfl)⟩ ⟨(Nat.le_of_ble_eq_true rfl), (Nat.le_of_ble_eq_true rfl)⟩ dX4_rest_4 (fun _ _ z => False.elim z) (fun v9 ws9 h => ?_)))))
  obtain ⟨rfl, hw9⟩ := h
  subst ws9
  dsimp only [mPush]
  refine r_lmul hX dX4_rest_7 (r_lsub hX dX4_rest_8 (r_l2i hX dX4_rest_9 (r_iret hX hE dX4_rest_10 (Nat.le_of_ble_eq_true rfl) (Nat.le_of_ble_eq_true rfl) ⟨?_, rfl⟩)))
  rw [lZ_mul, lZ_sub, ← Int.emod_def, Int64.toInt32_ofInt]
/-- a day that is there lies in the years 1910 to 2030 -/
theorem day_in {y m d : Nat} (h1 : 1910 ≤ y) (h2 : y ≤ 2030) (h3 : 1 ≤ m) (h4 : m ≤ 12) (h5 : 1 ≤ d) (h6 : d ≤ dm y m) : -21915 ≤ FO y + DB y m + (d : Int) - 1 ∧ FO y + DB y m + (d : Int) - 1 ≤ 22279 := by
  have a1 := FO_m h1 (by omega)
  have a2 := FO_m (y := y + 1) (z := 2031) (by omega) (by decide)
  have a3 := FO_s (y := y) (by omega)
  have a4 := DB_t (y := y) h3 h4
  have a5 := DB_b (y := y) (m := m) (by omega)
  rw [FO_1910] at a1
  rw [FO_2031] at a2
  omega
/-- .. by its number in the year -/
theorem day_in2 {y n : Nat} (h1 : 1910 ≤ y) (h2 : y ≤ 2030) (h5 : 1 ≤ n) (h6 : n ≤ yl y) : -21915 ≤ FO y + (n : Int) - 1 ∧ FO y + (n : Int) - 1 ≤ 22279 := by
  have a1 := FO_m h1 (by omega)
  have a2 := FO_m (y := y + 1) (z := 2031) (by omega) (by decide)
  have a3 := FO_s (y := y) (by omega)
  rw [FO_1910] at a1
  rw [FO_2031] at a2
  omega
end
-- 23 ref23
section
/-! The reference, its contracts (rows by a program of this repository). -/
theorem dX4_no_v0 : (cX4_no.data.toList.drop 0).take 16 = [42, 89, 180, 0, 33, 4, 96, 181, 0, 33, 16, 247, 172] := by decide +kernel
theorem dX4_no_0 : decode cX4_no 0 = .ok (.aload_n 0, 1) := dk_42 (dq_lk dX4_no_v0 (r := 0) (x := 42) rfl)
theorem dX4_no_1 : decode cX4_no 1 = .ok (.dup, 1) := dk_89 (dq_lk dX4_no_v0 (r := 1) (x := 89) rfl)
theorem dX4_no_2 : decode cX4_no 2 = .ok (.getfield 33, 3) := dk_180 (dq_lk dX4_no_v0 (r := 2) (x := 180) rfl) (dq_lk dX4_no_v0 (r := 3) (x := 0) rfl) (dq_lk dX4_no_v0 (r := 4) (x := 33) rfl)
theorem dX4_no_5 : decode cX4_no 5 = .ok (.iconst 1, 1) := dk_4 (dq_lk dX4_no_v0 (r := 5) (x := 4) rfl)
theorem dX4_no_6 : decode cX4_no 6 = .ok (.iadd, 1) := dk_96 (dq_lk dX4_no_v0 (r := 6) (x := 96) rfl)
theorem dX4_no_7 : decode cX4_no 7 = .ok (.putfield 33, 3) := dk_181 (dq_lk dX4_no_v0 (r := 7) (x := 181) rfl) (dq_lk dX4_no_v0 (r := 8) (x := 0) rfl) (dq_lk dX4_no_v0 (r := 9) (x := 33) rfl)
theorem dX4_no_10 : decode cX4_no 10 = .ok (.bipush (-9), 2) := dk_16 (dq_lk dX4_no_v0 (r := 10) (x := 16) rfl) (dq_lk dX4_no_v0 (r := 11) (x := 247) rfl) (by decide +kernel)
theorem dX4_no_12 : decode cX4_no 12 = .ok (.ireturn, 1) := dk_172 (dq_lk dX4_no_v0 (r := 12) (x := 172) rfl)
theorem c_X4_no (ad ae : Nat → Nat) (cs : ClassId × ClassId × ClassId) (K : mK) (J : mJ) (rest : va_W) : mCt (mTy cs) yX4_no cX4_no 1 (some .int) ⟨0, 0, 0, 0⟩ [.ref (ae 0)] (mRw ad ae cs K J rest) (fun v ws' => ∃ J', J'.1 = (J.1.1, J.1.2.1, J.1.2.2 + 1) ∧ J'.2 = J.2 ∧ v = some (.int (-9)) ∧ ws' = mRw ad ae cs K J' rest) mNo := by
  refine mCt.of (by decide +kernel) (Nat.le_of_ble_eq_true rfl) (fun X hX hE => ?_)
  replace hX : mOK X RX4 cX4_no 1 ⟨0, 0, 0, 0⟩ [] (mTy cs) := hX
  refine r_aload_n hX dX4_no_0 rfl rfl (r_dup hX dX4_no_1 rfl (r_get hX kf_X4_33 14 rfl rfl dX4_no_2 (r_iconst (v := 1) hX dX4_no_5 (by decide) (r_iadd hX dX4_no_6 (r_put hX kf_X4_33 14 rfl rfl rfl rfl (Nat.le_of_ble_eq_true rfl) dX4_no_7 (r_bipush (v := -9) hX dX4_no_10 (by decide) ?_))))))
  exact r_iret hX hE dX4_no_12 (Nat.le_of_ble_eq_true rfl) (Nat.le_of_ble_eq_true rfl) ⟨((J.1.1, J.1.2.1, J.1.2.2 + 1), J.2), rfl, rfl, rfl, rfl⟩
set_option maxHeartbeats 4000000 in
set_option maxRecDepth 20000 in
theorem c_X4_whole (tys : List (ClassId × FieldType)) (ws : va_W) (p0 : Int64) (p1 : Int64) (h0 : ¬ p1 = 0) : mCt tys yX4_whole cX4_whole 4 (some .long) ⟨0, 0, 0, 0⟩ [.long p0, .long p1] ws (mRl ws) mNo := by
  refine mCt.of (by decide +kernel) (Nat.le_of_ble_eq_true rfl) (fun X hX hE => ?_)
  have hX : mOK X RX4 cX4_whole 4 ⟨0, 0, 0, 0⟩ [] tys := hX
  refine r_lload_n hX dX4_whole_0 rfl rfl (r_lconst (v := 0) hX dX4_whole_1 (by decide) (r_lcmp hX dX4_whole_2 (r_if_lt (tgt := 12) hX dX4_whole_3 (by decide) (fun c1 => ?_) (fun c1 => ?_))))
  · refine r_lload_n hX dX4_whole_12 rfl rfl (r_lneg hX dX4_whole_13 (r_lload_n hX dX4_whole_14 rfl rfl (r_ladd hX dX4_whole_15 (r_lconst (v := 1) hX dX4_whole_16 (by decide) (r_lsub hX dX4_whole_17 (r_lload_n hX dX4_whole_18 rfl rfl (r_ldiv hX dX4_whole_19 (by first | decide | assumption) ?_)))))))
    refine r_lneg hX dX4_whole_20 ?_
    exact r_lret hX hE dX4_whole_21 (Nat.le_of_ble_eq_true rfl) (Nat.le_of_ble_eq_true rfl) ⟨_, rfl, rfl⟩
  · refine r_lload_n hX dX4_whole_6 rfl rfl (r_lload_n hX dX4_whole_7 rfl rfl (r_ldiv hX dX4_whole_8 (by first | decide | assumption) (r_goto (tgt := 21) hX dX4_whole_9 (by decide) ?_)))
    exact r_lret hX hE dX4_whole_21 (Nat.le_of_ble_eq_true rfl) (Nat.le_of_ble_eq_true rfl) ⟨_, rfl, rfl⟩
theorem dX4_order_v0 : (cX4_order.data.toList.drop 0).take 16 = [30, 32, 148, 156, 0, 7, 2, 167, 0, 17, 30, 32, 148, 158, 0, 7] := by decide +kernel
theorem dX4_order_v1 : (cX4_order.data.toList.drop 16).take 16 = [4, 167, 0, 4, 3, 184, 0, 84, 172] := by decide +kernel
theorem dX4_order_0 : decode cX4_order 0 = .ok (.lload_n 0, 1) := dk_30 (dq_lk dX4_order_v0 (r := 0) (x := 30) rfl)
theorem dX4_order_1 : decode cX4_order 1 = .ok (.lload_n 2, 1) := dk_32 (dq_lk dX4_order_v0 (r := 1) (x := 32) rfl)
theorem dX4_order_2 : decode cX4_order 2 = .ok (.lcmp, 1) := dk_148 (dq_lk dX4_order_v0 (r := 2) (x := 148) rfl)
theorem dX4_order_3 : decode cX4_order 3 = .ok (.ifCond .ge 7, 3) := dk_156 (dq_lk dX4_order_v0 (r := 3) (x := 156) rfl) (dq_lk dX4_order_v0 (r := 4) (x := 0) rfl) (dq_lk dX4_order_v0 (r := 5) (x := 7) rfl) (by decide +kernel)
theorem dX4_order_6 : decode cX4_order 6 = .ok (.iconst (-1), 1) := dk_2 (dq_lk dX4_order_v0 (r := 6) (x := 2) rfl)
theorem dX4_order_7 : decode cX4_order 7 = .ok (.goto 17, 3) := dk_167 (dq_lk dX4_order_v0 (r := 7) (x := 167) rfl) (dq_lk dX4_order_v0 (r := 8) (x := 0) rfl) (dq_lk dX4_order_v0 (r := 9) (x := 17) rfl) (by decide +kernel)
theorem dX4_order_10 : decode cX4_order 10 = .ok (.lload_n 0, 1) := dk_30 (dq_lk dX4_order_v0 (r := 10) (x := 30) rfl)
theorem dX4_order_11 : decode cX4_order 11 = .ok (.lload_n 2, 1) := dk_32 (dq_lk dX4_order_v0 (r := 11) (x := 32) rfl)
theorem dX4_order_12 : decode cX4_order 12 = .ok (.lcmp, 1) := dk_148 (dq_lk dX4_order_v0 (r := 12) (x := 148) rfl)
theorem dX4_order_13 : decode cX4_order 13 = .ok (.ifCond .le 7, 3) := dk_158 (dq_lk dX4_order_v0 (r := 13) (x := 158) rfl) (dq_lk dX4_order_v0 (r := 14) (x := 0) rfl) (dq_lk dX4_order_v0 (r := 15) (x := 7) rfl) (by decide +kernel)
theorem dX4_order_16 : decode cX4_order 16 = .ok (.iconst 1, 1) := dk_4 (dq_lk dX4_order_v1 (r := 0) (x := 4) rfl)
theorem dX4_order_17 : decode cX4_order 17 = .ok (.goto 4, 3) := dk_167 (dq_lk dX4_order_v1 (r := 1) (x := 167) rfl) (dq_lk dX4_order_v1 (r := 2) (x := 0) rfl) (dq_lk dX4_order_v1 (r := 3) (x := 4) rfl) (by decide +kernel)
theorem dX4_order_20 : decode cX4_order 20 = .ok (.iconst 0, 1) := dk_3 (dq_lk dX4_order_v1 (r := 4) (x := 3) rfl)
theorem dX4_order_21 : decode cX4_order 21 = .ok (.invokestatic 84, 3) := dk_184 (dq_lk dX4_order_v1 (r := 5) (x := 184) rfl) (dq_lk dX4_order_v1 (r := 6) (x := 0) rfl) (dq_lk dX4_order_v1 (r := 7) (x := 84) rfl)
theorem dX4_order_24 : decode cX4_order 24 = .ok (.ireturn, 1) := dk_172 (dq_lk dX4_order_v1 (r := 8) (x := 172) rfl)
theorem dX4_secondsOf_v0 : (cX4_secondsOf.data.toList.drop 0).take 16 = [26, 7, 160, 0, 9, 17, 14, 16, 167, 0, 27, 26, 8, 160, 0, 8] := by decide +kernel
theorem dX4_secondsOf_v1 : (cX4_secondsOf.data.toList.drop 16).take 16 = [16, 60, 167, 0, 17, 26, 16, 6, 160, 0, 7, 4, 167, 0, 4, 3] := by decide +kernel
theorem dX4_secondsOf_v2 : (cX4_secondsOf.data.toList.drop 32).take 16 = [184, 0, 84, 172] := by decide +kernel
theorem dX4_secondsOf_0 : decode cX4_secondsOf 0 = .ok (.iload_n 0, 1) := dk_26 (dq_lk dX4_secondsOf_v0 (r := 0) (x := 26) rfl)
theorem dX4_secondsOf_1 : decode cX4_secondsOf 1 = .ok (.iconst 4, 1) := dk_7 (dq_lk dX4_secondsOf_v0 (r := 1) (x := 7) rfl)
theorem dX4_secondsOf_2 : decode cX4_secondsOf 2 = .ok (.if_icmp .ne 9, 3) := dk_160 (dq_lk dX4_secondsOf_v0 (r := 2) (x := 160) rfl) (dq_lk dX4_secondsOf_v0 (r := 3) (x := 0) rfl) (dq_lk dX4_secondsOf_v0 (r := 4) (x := 9) rfl) (by decide +kernel)
theorem dX4_secondsOf_5 : decode cX4_secondsOf 5 = .ok (.sipush 3600, 3) := dk_17 (dq_lk dX4_secondsOf_v0 (r := 5) (x := 17) rfl) (dq_lk dX4_secondsOf_v0 (r := 6) (x := 14) rfl) (dq_lk dX4_secondsOf_v0 (r := 7) (x := 16) rfl) (by decide +kernel)
theorem dX4_secondsOf_8 : decode cX4_secondsOf 8 = .ok (.goto 27, 3) := dk_167 (dq_lk dX4_secondsOf_v0 (r := 8) (x := 167) rfl) (dq_lk dX4_secondsOf_v0 (r := 9) (x := 0) rfl) (dq_lk dX4_secondsOf_v0 (r := 10) (x := 27) rfl) (by decide +kernel)
theorem dX4_secondsOf_11 : decode cX4_secondsOf 11 = .ok (.iload_n 0, 1) := dk_26 (dq_lk dX4_secondsOf_v0 (r := 11) (x := 26) rfl)
theorem dX4_secondsOf_12 : decode cX4_secondsOf 12 = .ok (.iconst 5, 1) := dk_8 (dq_lk dX4_secondsOf_v0 (r := 12) (x := 8) rfl)
theorem dX4_secondsOf_13 : decode cX4_secondsOf 13 = .ok (.if_icmp .ne 8, 3) := dk_160 (dq_lk dX4_secondsOf_v0 (r := 13) (x := 160) rfl) (dq_lk dX4_secondsOf_v0 (r := 14) (x := 0) rfl) (dq_lk dX4_secondsOf_v0 (r := 15) (x := 8) rfl) (by decide +kernel)
theorem dX4_secondsOf_16 : decode cX4_secondsOf 16 = .ok (.bipush 60, 2) := dk_16 (dq_lk dX4_secondsOf_v1 (r := 0) (x := 16) rfl) (dq_lk dX4_secondsOf_v1 (r := 1) (x := 60) rfl) (by decide +kernel)
theorem dX4_secondsOf_18 : decode cX4_secondsOf 18 = .ok (.goto 17, 3) := dk_167 (dq_lk dX4_secondsOf_v1 (r := 2) (x := 167) rfl) (dq_lk dX4_secondsOf_v1 (r := 3) (x := 0) rfl) (dq_lk dX4_secondsOf_v1 (r := 4) (x := 17) rfl) (by decide +kernel)
theorem dX4_secondsOf_21 : decode cX4_secondsOf 21 = .ok (.iload_n 0, 1) := dk_26 (dq_lk dX4_secondsOf_v1 (r := 5) (x := 26) rfl)
theorem dX4_secondsOf_22 : decode cX4_secondsOf 22 = .ok (.bipush 6, 2) := dk_16 (dq_lk dX4_secondsOf_v1 (r := 6) (x := 16) rfl) (dq_lk dX4_secondsOf_v1 (r := 7) (x := 6) rfl) (by decide +kernel)
theorem dX4_secondsOf_24 : decode cX4_secondsOf 24 = .ok (.if_icmp .ne 7, 3) := dk_160 (dq_lk dX4_secondsOf_v1 (r := 8) (x := 160) rfl) (dq_lk dX4_secondsOf_v1 (r := 9) (x := 0) rfl) (dq_lk dX4_secondsOf_v1 (r := 10) (x := 7) rfl) (by decide +kernel)
theorem dX4_secondsOf_27 : decode cX4_secondsOf 27 = .ok (.iconst 1, 1) := dk_4 (dq_lk dX4_secondsOf_v1 (r := 11) (x := 4) rfl)
theorem dX4_secondsOf_28 : decode cX4_secondsOf 28 = .ok (.goto 4, 3) := dk_167 (dq_lk dX4_secondsOf_v1 (r := 12) (x := 167) rfl) (dq_lk dX4_secondsOf_v1 (r := 13) (x := 0) rfl) (dq_lk dX4_secondsOf_v1 (r := 14) (x := 4) rfl) (by decide +kernel)
theorem dX4_secondsOf_31 : decode cX4_secondsOf 31 = .ok (.iconst 0, 1) := dk_3 (dq_lk dX4_secondsOf_v1 (r := 15) (x := 3) rfl)
theorem dX4_secondsOf_32 : decode cX4_secondsOf 32 = .ok (.invokestatic 84, 3) := dk_184 (dq_lk dX4_secondsOf_v2 (r := 0) (x := 184) rfl) (dq_lk dX4_secondsOf_v2 (r := 1) (x := 0) rfl) (dq_lk dX4_secondsOf_v2 (r := 2) (x := 84) rfl)
theorem dX4_secondsOf_35 : decode cX4_secondsOf 35 = .ok (.ireturn, 1) := dk_172 (dq_lk dX4_secondsOf_v2 (r := 3) (x := 172) rfl)
theorem dX4_isTime_v0 : (cX4_isTime.data.toList.drop 0).take 16 = [26, 133, 9, 20, 0, 143, 184, 0, 38, 153, 0, 19, 27, 133, 9, 20] := by decide +kernel
theorem dX4_isTime_v1 : (cX4_isTime.data.toList.drop 16).take 16 = [0, 145, 184, 0, 38, 153, 0, 7, 4, 167, 0, 4, 3, 172] := by decide +kernel
theorem dX4_isTime_0 : decode cX4_isTime 0 = .ok (.iload_n 0, 1) := dk_26 (dq_lk dX4_isTime_v0 (r := 0) (x := 26) rfl)
theorem dX4_isTime_1 : decode cX4_isTime 1 = .ok (.i2l, 1) := dk_133 (dq_lk dX4_isTime_v0 (r := 1) (x := 133) rfl)
theorem dX4_isTime_2 : decode cX4_isTime 2 = .ok (.lconst 0, 1) := dk_9 (dq_lk dX4_isTime_v0 (r := 2) (x := 9) rfl)
theorem dX4_isTime_3 : decode cX4_isTime 3 = .ok (.ldc2_w 143, 3) := dk_20 (dq_lk dX4_isTime_v0 (r := 3) (x := 20) rfl) (dq_lk dX4_isTime_v0 (r := 4) (x := 0) rfl) (dq_lk dX4_isTime_v0 (r := 5) (x := 143) rfl)
theorem dX4_isTime_6 : decode cX4_isTime 6 = .ok (.invokestatic 38, 3) := dk_184 (dq_lk dX4_isTime_v0 (r := 6) (x := 184) rfl) (dq_lk dX4_isTime_v0 (r := 7) (x := 0) rfl) (dq_lk dX4_isTime_v0 (r := 8) (x := 38) rfl)
theorem dX4_isTime_9 : decode cX4_isTime 9 = .ok (.ifCond .eq 19, 3) := dk_153 (dq_lk dX4_isTime_v0 (r := 9) (x := 153) rfl) (dq_lk dX4_isTime_v0 (r := 10) (x := 0) rfl) (dq_lk dX4_isTime_v0 (r := 11) (x := 19) rfl) (by decide +kernel)
theorem dX4_isTime_12 : decode cX4_isTime 12 = .ok (.iload_n 1, 1) := dk_27 (dq_lk dX4_isTime_v0 (r := 12) (x := 27) rfl)
theorem dX4_isTime_13 : decode cX4_isTime 13 = .ok (.i2l, 1) := dk_133 (dq_lk dX4_isTime_v0 (r := 13) (x := 133) rfl)
theorem dX4_isTime_14 : decode cX4_isTime 14 = .ok (.lconst 0, 1) := dk_9 (dq_lk dX4_isTime_v0 (r := 14) (x := 9) rfl)
theorem dX4_isTime_15 : decode cX4_isTime 15 = .ok (.ldc2_w 145, 3) := dk_20 (dq_lk dX4_isTime_v0 (r := 15) (x := 20) rfl) (dq_lk dX4_isTime_v1 (r := 0) (x := 0) rfl) (dq_lk dX4_isTime_v1 (r := 1) (x := 145) rfl)
theorem dX4_isTime_18 : decode cX4_isTime 18 = .ok (.invokestatic 38, 3) := dk_184 (dq_lk dX4_isTime_v1 (r := 2) (x := 184) rfl) (dq_lk dX4_isTime_v1 (r := 3) (x := 0) rfl) (dq_lk dX4_isTime_v1 (r := 4) (x := 38) rfl)
theorem dX4_isTime_21 : decode cX4_isTime 21 = .ok (.ifCond .eq 7, 3) := dk_153 (dq_lk dX4_isTime_v1 (r := 5) (x := 153) rfl) (dq_lk dX4_isTime_v1 (r := 6) (x := 0) rfl) (dq_lk dX4_isTime_v1 (r := 7) (x := 7) rfl) (by decide +kernel)
theorem dX4_isTime_24 : decode cX4_isTime 24 = .ok (.iconst 1, 1) := dk_4 (dq_lk dX4_isTime_v1 (r := 8) (x := 4) rfl)
theorem dX4_isTime_25 : decode cX4_isTime 25 = .ok (.goto 4, 3) := dk_167 (dq_lk dX4_isTime_v1 (r := 9) (x := 167) rfl) (dq_lk dX4_isTime_v1 (r := 10) (x := 0) rfl) (dq_lk dX4_isTime_v1 (r := 11) (x := 4) rfl) (by decide +kernel)
theorem dX4_isTime_28 : decode cX4_isTime 28 = .ok (.iconst 0, 1) := dk_3 (dq_lk dX4_isTime_v1 (r := 12) (x := 3) rfl)
theorem dX4_isTime_29 : decode cX4_isTime 29 = .ok (.ireturn, 1) := dk_172 (dq_lk dX4_isTime_v1 (r := 13) (x := 172) rfl)
end
-- 24 ref24
section
/-! The reference, its contracts (rows by a program of this repository). -/
theorem dX4_become_v0 : (cX4_become.data.toList.drop 0).take 16 = [32, 20, 0, 96, 184, 0, 92, 20, 0, 98, 20, 0, 100, 184, 0, 38] := by decide +kernel
theorem dX4_become_v1 : (cX4_become.data.toList.drop 16).take 16 = [154, 0, 8, 42, 182, 0, 80, 172, 42, 180, 0, 13, 27, 32, 80, 32] := by decide +kernel
theorem dX4_become_v2 : (cX4_become.data.toList.drop 32).take 16 = [20, 0, 96, 184, 0, 102, 172] := by decide +kernel
theorem dX4_become_0 : decode cX4_become 0 = .ok (.lload_n 2, 1) := dk_32 (dq_lk dX4_become_v0 (r := 0) (x := 32) rfl)
theorem dX4_become_1 : decode cX4_become 1 = .ok (.ldc2_w 96, 3) := dk_20 (dq_lk dX4_become_v0 (r := 1) (x := 20) rfl) (dq_lk dX4_become_v0 (r := 2) (x := 0) rfl) (dq_lk dX4_become_v0 (r := 3) (x := 96) rfl)
theorem dX4_become_4 : decode cX4_become 4 = .ok (.invokestatic 92, 3) := dk_184 (dq_lk dX4_become_v0 (r := 4) (x := 184) rfl) (dq_lk dX4_become_v0 (r := 5) (x := 0) rfl) (dq_lk dX4_become_v0 (r := 6) (x := 92) rfl)
theorem dX4_become_7 : decode cX4_become 7 = .ok (.ldc2_w 98, 3) := dk_20 (dq_lk dX4_become_v0 (r := 7) (x := 20) rfl) (dq_lk dX4_become_v0 (r := 8) (x := 0) rfl) (dq_lk dX4_become_v0 (r := 9) (x := 98) rfl)
theorem dX4_become_10 : decode cX4_become 10 = .ok (.ldc2_w 100, 3) := dk_20 (dq_lk dX4_become_v0 (r := 10) (x := 20) rfl) (dq_lk dX4_become_v0 (r := 11) (x := 0) rfl) (dq_lk dX4_become_v0 (r := 12) (x := 100) rfl)
theorem dX4_become_13 : decode cX4_become 13 = .ok (.invokestatic 38, 3) := dk_184 (dq_lk dX4_become_v0 (r := 13) (x := 184) rfl) (dq_lk dX4_become_v0 (r := 14) (x := 0) rfl) (dq_lk dX4_become_v0 (r := 15) (x := 38) rfl)
theorem dX4_become_16 : decode cX4_become 16 = .ok (.ifCond .ne 8, 3) := dk_154 (dq_lk dX4_become_v1 (r := 0) (x := 154) rfl) (dq_lk dX4_become_v1 (r := 1) (x := 0) rfl) (dq_lk dX4_become_v1 (r := 2) (x := 8) rfl) (by decide +kernel)
theorem dX4_become_19 : decode cX4_become 19 = .ok (.aload_n 0, 1) := dk_42 (dq_lk dX4_become_v1 (r := 3) (x := 42) rfl)
theorem dX4_become_20 : decode cX4_become 20 = .ok (.invokevirtual 80, 3) := dk_182 (dq_lk dX4_become_v1 (r := 4) (x := 182) rfl) (dq_lk dX4_become_v1 (r := 5) (x := 0) rfl) (dq_lk dX4_become_v1 (r := 6) (x := 80) rfl)
theorem dX4_become_23 : decode cX4_become 23 = .ok (.ireturn, 1) := dk_172 (dq_lk dX4_become_v1 (r := 7) (x := 172) rfl)
theorem dX4_become_24 : decode cX4_become 24 = .ok (.aload_n 0, 1) := dk_42 (dq_lk dX4_become_v1 (r := 8) (x := 42) rfl)
theorem dX4_become_25 : decode cX4_become 25 = .ok (.getfield 13, 3) := dk_180 (dq_lk dX4_become_v1 (r := 9) (x := 180) rfl) (dq_lk dX4_become_v1 (r := 10) (x := 0) rfl) (dq_lk dX4_become_v1 (r := 11) (x := 13) rfl)
theorem dX4_become_28 : decode cX4_become 28 = .ok (.iload_n 1, 1) := dk_27 (dq_lk dX4_become_v1 (r := 12) (x := 27) rfl)
theorem dX4_become_29 : decode cX4_become 29 = .ok (.lload_n 2, 1) := dk_32 (dq_lk dX4_become_v1 (r := 13) (x := 32) rfl)
theorem dX4_become_30 : decode cX4_become 30 = .ok (.lastore, 1) := dk_80 (dq_lk dX4_become_v1 (r := 14) (x := 80) rfl)
theorem dX4_become_31 : decode cX4_become 31 = .ok (.lload_n 2, 1) := dk_32 (dq_lk dX4_become_v1 (r := 15) (x := 32) rfl)
theorem dX4_become_32 : decode cX4_become 32 = .ok (.ldc2_w 96, 3) := dk_20 (dq_lk dX4_become_v2 (r := 0) (x := 20) rfl) (dq_lk dX4_become_v2 (r := 1) (x := 0) rfl) (dq_lk dX4_become_v2 (r := 2) (x := 96) rfl)
theorem dX4_become_35 : decode cX4_become 35 = .ok (.invokestatic 102, 3) := dk_184 (dq_lk dX4_become_v2 (r := 3) (x := 184) rfl) (dq_lk dX4_become_v2 (r := 4) (x := 0) rfl) (dq_lk dX4_become_v2 (r := 5) (x := 102) rfl)
theorem dX4_become_38 : decode cX4_become 38 = .ok (.ireturn, 1) := dk_172 (dq_lk dX4_become_v2 (r := 6) (x := 172) rfl)
theorem dX4_moment_v0 : (cX4_moment.data.toList.drop 0).take 16 = [42, 27, 184, 0, 61, 3, 182, 0, 68, 153, 0, 7, 3, 167, 0, 17] := by decide +kernel
theorem dX4_moment_v1 : (cX4_moment.data.toList.drop 16).take 16 = [42, 27, 28, 133, 20, 0, 96, 105, 29, 133, 97, 182, 0, 105, 172] := by decide +kernel
theorem dX4_moment_0 : decode cX4_moment 0 = .ok (.aload_n 0, 1) := dk_42 (dq_lk dX4_moment_v0 (r := 0) (x := 42) rfl)
theorem dX4_moment_1 : decode cX4_moment 1 = .ok (.iload_n 1, 1) := dk_27 (dq_lk dX4_moment_v0 (r := 1) (x := 27) rfl)
theorem dX4_moment_2 : decode cX4_moment 2 = .ok (.invokestatic 61, 3) := dk_184 (dq_lk dX4_moment_v0 (r := 2) (x := 184) rfl) (dq_lk dX4_moment_v0 (r := 3) (x := 0) rfl) (dq_lk dX4_moment_v0 (r := 4) (x := 61) rfl)
theorem dX4_moment_5 : decode cX4_moment 5 = .ok (.iconst 0, 1) := dk_3 (dq_lk dX4_moment_v0 (r := 5) (x := 3) rfl)
theorem dX4_moment_6 : decode cX4_moment 6 = .ok (.invokevirtual 68, 3) := dk_182 (dq_lk dX4_moment_v0 (r := 6) (x := 182) rfl) (dq_lk dX4_moment_v0 (r := 7) (x := 0) rfl) (dq_lk dX4_moment_v0 (r := 8) (x := 68) rfl)
theorem dX4_moment_9 : decode cX4_moment 9 = .ok (.ifCond .eq 7, 3) := dk_153 (dq_lk dX4_moment_v0 (r := 9) (x := 153) rfl) (dq_lk dX4_moment_v0 (r := 10) (x := 0) rfl) (dq_lk dX4_moment_v0 (r := 11) (x := 7) rfl) (by decide +kernel)
theorem dX4_moment_12 : decode cX4_moment 12 = .ok (.iconst 0, 1) := dk_3 (dq_lk dX4_moment_v0 (r := 12) (x := 3) rfl)
theorem dX4_moment_13 : decode cX4_moment 13 = .ok (.goto 17, 3) := dk_167 (dq_lk dX4_moment_v0 (r := 13) (x := 167) rfl) (dq_lk dX4_moment_v0 (r := 14) (x := 0) rfl) (dq_lk dX4_moment_v0 (r := 15) (x := 17) rfl) (by decide +kernel)
theorem dX4_moment_16 : decode cX4_moment 16 = .ok (.aload_n 0, 1) := dk_42 (dq_lk dX4_moment_v1 (r := 0) (x := 42) rfl)
theorem dX4_moment_17 : decode cX4_moment 17 = .ok (.iload_n 1, 1) := dk_27 (dq_lk dX4_moment_v1 (r := 1) (x := 27) rfl)
theorem dX4_moment_18 : decode cX4_moment 18 = .ok (.iload_n 2, 1) := dk_28 (dq_lk dX4_moment_v1 (r := 2) (x := 28) rfl)
theorem dX4_moment_19 : decode cX4_moment 19 = .ok (.i2l, 1) := dk_133 (dq_lk dX4_moment_v1 (r := 3) (x := 133) rfl)
theorem dX4_moment_20 : decode cX4_moment 20 = .ok (.ldc2_w 96, 3) := dk_20 (dq_lk dX4_moment_v1 (r := 4) (x := 20) rfl) (dq_lk dX4_moment_v1 (r := 5) (x := 0) rfl) (dq_lk dX4_moment_v1 (r := 6) (x := 96) rfl)
theorem dX4_moment_23 : decode cX4_moment 23 = .ok (.lmul, 1) := dk_105 (dq_lk dX4_moment_v1 (r := 7) (x := 105) rfl)
theorem dX4_moment_24 : decode cX4_moment 24 = .ok (.iload_n 3, 1) := dk_29 (dq_lk dX4_moment_v1 (r := 8) (x := 29) rfl)
theorem dX4_moment_25 : decode cX4_moment 25 = .ok (.i2l, 1) := dk_133 (dq_lk dX4_moment_v1 (r := 9) (x := 133) rfl)
theorem dX4_moment_26 : decode cX4_moment 26 = .ok (.ladd, 1) := dk_97 (dq_lk dX4_moment_v1 (r := 10) (x := 97) rfl)
theorem dX4_moment_27 : decode cX4_moment 27 = .ok (.invokevirtual 105, 3) := dk_182 (dq_lk dX4_moment_v1 (r := 11) (x := 182) rfl) (dq_lk dX4_moment_v1 (r := 12) (x := 0) rfl) (dq_lk dX4_moment_v1 (r := 13) (x := 105) rfl)
theorem dX4_moment_30 : decode cX4_moment 30 = .ok (.ireturn, 1) := dk_172 (dq_lk dX4_moment_v1 (r := 14) (x := 172) rfl)
theorem dX4_milli_v0 : (cX4_milli.data.toList.drop 0).take 16 = [42, 27, 184, 0, 61, 3, 182, 0, 68, 153, 0, 7, 3, 167, 0, 21] := by decide +kernel
theorem dX4_milli_v1 : (cX4_milli.data.toList.drop 16).take 16 = [42, 27, 28, 133, 20, 0, 109, 105, 29, 133, 97, 20, 0, 111, 105, 182] := by decide +kernel
theorem dX4_milli_v2 : (cX4_milli.data.toList.drop 32).take 16 = [0, 105, 172] := by decide +kernel
theorem dX4_milli_0 : decode cX4_milli 0 = .ok (.aload_n 0, 1) := dk_42 (dq_lk dX4_milli_v0 (r := 0) (x := 42) rfl)
theorem dX4_milli_1 : decode cX4_milli 1 = .ok (.iload_n 1, 1) := dk_27 (dq_lk dX4_milli_v0 (r := 1) (x := 27) rfl)
theorem dX4_milli_2 : decode cX4_milli 2 = .ok (.invokestatic 61, 3) := dk_184 (dq_lk dX4_milli_v0 (r := 2) (x := 184) rfl) (dq_lk dX4_milli_v0 (r := 3) (x := 0) rfl) (dq_lk dX4_milli_v0 (r := 4) (x := 61) rfl)
theorem dX4_milli_5 : decode cX4_milli 5 = .ok (.iconst 0, 1) := dk_3 (dq_lk dX4_milli_v0 (r := 5) (x := 3) rfl)
theorem dX4_milli_6 : decode cX4_milli 6 = .ok (.invokevirtual 68, 3) := dk_182 (dq_lk dX4_milli_v0 (r := 6) (x := 182) rfl) (dq_lk dX4_milli_v0 (r := 7) (x := 0) rfl) (dq_lk dX4_milli_v0 (r := 8) (x := 68) rfl)
theorem dX4_milli_9 : decode cX4_milli 9 = .ok (.ifCond .eq 7, 3) := dk_153 (dq_lk dX4_milli_v0 (r := 9) (x := 153) rfl) (dq_lk dX4_milli_v0 (r := 10) (x := 0) rfl) (dq_lk dX4_milli_v0 (r := 11) (x := 7) rfl) (by decide +kernel)
theorem dX4_milli_12 : decode cX4_milli 12 = .ok (.iconst 0, 1) := dk_3 (dq_lk dX4_milli_v0 (r := 12) (x := 3) rfl)
theorem dX4_milli_13 : decode cX4_milli 13 = .ok (.goto 21, 3) := dk_167 (dq_lk dX4_milli_v0 (r := 13) (x := 167) rfl) (dq_lk dX4_milli_v0 (r := 14) (x := 0) rfl) (dq_lk dX4_milli_v0 (r := 15) (x := 21) rfl) (by decide +kernel)
theorem dX4_milli_16 : decode cX4_milli 16 = .ok (.aload_n 0, 1) := dk_42 (dq_lk dX4_milli_v1 (r := 0) (x := 42) rfl)
theorem dX4_milli_17 : decode cX4_milli 17 = .ok (.iload_n 1, 1) := dk_27 (dq_lk dX4_milli_v1 (r := 1) (x := 27) rfl)
theorem dX4_milli_18 : decode cX4_milli 18 = .ok (.iload_n 2, 1) := dk_28 (dq_lk dX4_milli_v1 (r := 2) (x := 28) rfl)
theorem dX4_milli_19 : decode cX4_milli 19 = .ok (.i2l, 1) := dk_133 (dq_lk dX4_milli_v1 (r := 3) (x := 133) rfl)
theorem dX4_milli_20 : decode cX4_milli 20 = .ok (.ldc2_w 109, 3) := dk_20 (dq_lk dX4_milli_v1 (r := 4) (x := 20) rfl) (dq_lk dX4_milli_v1 (r := 5) (x := 0) rfl) (dq_lk dX4_milli_v1 (r := 6) (x := 109) rfl)
theorem dX4_milli_23 : decode cX4_milli 23 = .ok (.lmul, 1) := dk_105 (dq_lk dX4_milli_v1 (r := 7) (x := 105) rfl)
theorem dX4_milli_24 : decode cX4_milli 24 = .ok (.iload_n 3, 1) := dk_29 (dq_lk dX4_milli_v1 (r := 8) (x := 29) rfl)
theorem dX4_milli_25 : decode cX4_milli 25 = .ok (.i2l, 1) := dk_133 (dq_lk dX4_milli_v1 (r := 9) (x := 133) rfl)
theorem dX4_milli_26 : decode cX4_milli 26 = .ok (.ladd, 1) := dk_97 (dq_lk dX4_milli_v1 (r := 10) (x := 97) rfl)
theorem dX4_milli_27 : decode cX4_milli 27 = .ok (.ldc2_w 111, 3) := dk_20 (dq_lk dX4_milli_v1 (r := 11) (x := 20) rfl) (dq_lk dX4_milli_v1 (r := 12) (x := 0) rfl) (dq_lk dX4_milli_v1 (r := 13) (x := 111) rfl)
theorem dX4_milli_30 : decode cX4_milli 30 = .ok (.lmul, 1) := dk_105 (dq_lk dX4_milli_v1 (r := 14) (x := 105) rfl)
theorem dX4_milli_31 : decode cX4_milli 31 = .ok (.invokevirtual 105, 3) := dk_182 (dq_lk dX4_milli_v1 (r := 15) (x := 182) rfl) (dq_lk dX4_milli_v2 (r := 0) (x := 0) rfl) (dq_lk dX4_milli_v2 (r := 1) (x := 105) rfl)
theorem dX4_milli_34 : decode cX4_milli 34 = .ok (.ireturn, 1) := dk_172 (dq_lk dX4_milli_v2 (r := 2) (x := 172) rfl)
theorem dX4_move_w0 : (cX4_move.data.toList.drop 0).take 64 = [42, 27, 184, 0, 61, 28, 133, 9, 20, 0, 42, 184, 0, 38, 154, 0, 7, 4, 167, 0, 4, 3, 182, 0, 68, 153, 0, 5, 3, 172, 21, 4, 153, 0, 9, 29, 133, 117, 167, 0, 5, 29, 133, 28, 154, 0, 9, 20, 0, 96, 167, 0, 15, 28, 4, 160, 0, 9, 20, 0, 111, 167, 0, 4] := by decide +kernel
theorem dX4_move_w1 : (cX4_move.data.toList.drop 64).take 64 = [10, 105, 55, 5, 42, 27, 42, 180, 0, 13, 27, 47, 22, 5, 97, 182, 0, 105, 172] := by decide +kernel
theorem dX4_move_v0 : (cX4_move.data.toList.drop 0).take 16 = [42, 27, 184, 0, 61, 28, 133, 9, 20, 0, 42, 184, 0, 38, 154, 0] := dq_sub (n := 0) (j := 0) dX4_move_w0 (by decide) rfl
theorem dX4_move_v1 : (cX4_move.data.toList.drop 16).take 16 = [7, 4, 167, 0, 4, 3, 182, 0, 68, 153, 0, 5, 3, 172, 21, 4] := dq_sub (n := 0) (j := 16) dX4_move_w0 (by decide) rfl
theorem dX4_move_v2 : (cX4_move.data.toList.drop 32).take 16 = [153, 0, 9, 29, 133, 117, 167, 0, 5, 29, 133, 28, 154, 0, 9, 20] := dq_sub (n := 0) (j := 32) dX4_move_w0 (by decide) rfl
theorem dX4_move_v3 : (cX4_move.data.toList.drop 48).take 16 = [0, 96, 167, 0, 15, 28, 4, 160, 0, 9, 20, 0, 111, 167, 0, 4] := dq_sub (n := 0) (j := 48) dX4_move_w0 (by decide) rfl
theorem dX4_move_v4 : (cX4_move.data.toList.drop 64).take 16 = [10, 105, 55, 5, 42, 27, 42, 180, 0, 13, 27, 47, 22, 5, 97, 182] := dq_sub (n := 64) (j := 0) dX4_move_w1 (by decide) rfl
theorem dX4_move_v5 : (cX4_move.data.toList.drop 80).take 16 = [0, 105, 172] := dq_sub (n := 64) (j := 16) dX4_move_w1 (by decide) rfl
theorem dX4_move_0 : decode cX4_move 0 = .ok (.aload_n 0, 1) := dk_42 (dq_lk dX4_move_v0 (r := 0) (x := 42) rfl)
theorem dX4_move_1 : decode cX4_move 1 = .ok (.iload_n 1, 1) := dk_27 (dq_lk dX4_move_v0 (r := 1) (x := 27) rfl)
theorem dX4_move_2 : decode cX4_move 2 = .ok (.invokestatic 61, 3) := dk_184 (dq_lk dX4_move_v0 (r := 2) (x := 184) rfl) (dq_lk dX4_move_v0 (r := 3) (x := 0) rfl) (dq_lk dX4_move_v0 (r := 4) (x := 61) rfl)
theorem dX4_move_5 : decode cX4_move 5 = .ok (.iload_n 2, 1) := dk_28 (dq_lk dX4_move_v0 (r := 5) (x := 28) rfl)
theorem dX4_move_6 : decode cX4_move 6 = .ok (.i2l, 1) := dk_133 (dq_lk dX4_move_v0 (r := 6) (x := 133) rfl)
theorem dX4_move_7 : decode cX4_move 7 = .ok (.lconst 0, 1) := dk_9 (dq_lk dX4_move_v0 (r := 7) (x := 9) rfl)
theorem dX4_move_8 : decode cX4_move 8 = .ok (.ldc2_w 42, 3) := dk_20 (dq_lk dX4_move_v0 (r := 8) (x := 20) rfl) (dq_lk dX4_move_v0 (r := 9) (x := 0) rfl) (dq_lk dX4_move_v0 (r := 10) (x := 42) rfl)
theorem dX4_move_11 : decode cX4_move 11 = .ok (.invokestatic 38, 3) := dk_184 (dq_lk dX4_move_v0 (r := 11) (x := 184) rfl) (dq_lk dX4_move_v0 (r := 12) (x := 0) rfl) (dq_lk dX4_move_v0 (r := 13) (x := 38) rfl)
theorem dX4_move_14 : decode cX4_move 14 = .ok (.ifCond .ne 7, 3) := dk_154 (dq_lk dX4_move_v0 (r := 14) (x := 154) rfl) (dq_lk dX4_move_v0 (r := 15) (x := 0) rfl) (dq_lk dX4_move_v1 (r := 0) (x := 7) rfl) (by decide +kernel)
theorem dX4_move_17 : decode cX4_move 17 = .ok (.iconst 1, 1) := dk_4 (dq_lk dX4_move_v1 (r := 1) (x := 4) rfl)
theorem dX4_move_18 : decode cX4_move 18 = .ok (.goto 4, 3) := dk_167 (dq_lk dX4_move_v1 (r := 2) (x := 167) rfl) (dq_lk dX4_move_v1 (r := 3) (x := 0) rfl) (dq_lk dX4_move_v1 (r := 4) (x := 4) rfl) (by decide +kernel)
theorem dX4_move_21 : decode cX4_move 21 = .ok (.iconst 0, 1) := dk_3 (dq_lk dX4_move_v1 (r := 5) (x := 3) rfl)
theorem dX4_move_22 : decode cX4_move 22 = .ok (.invokevirtual 68, 3) := dk_182 (dq_lk dX4_move_v1 (r := 6) (x := 182) rfl) (dq_lk dX4_move_v1 (r := 7) (x := 0) rfl) (dq_lk dX4_move_v1 (r := 8) (x := 68) rfl)
theorem dX4_move_25 : decode cX4_move 25 = .ok (.ifCond .eq 5, 3) := dk_153 (dq_lk dX4_move_v1 (r := 9) (x := 153) rfl) (dq_lk dX4_move_v1 (r := 10) (x := 0) rfl) (dq_lk dX4_move_v1 (r := 11) (x := 5) rfl) (by decide +kernel)
theorem dX4_move_28 : decode cX4_move 28 = .ok (.iconst 0, 1) := dk_3 (dq_lk dX4_move_v1 (r := 12) (x := 3) rfl)
theorem dX4_move_29 : decode cX4_move 29 = .ok (.ireturn, 1) := dk_172 (dq_lk dX4_move_v1 (r := 13) (x := 172) rfl)
theorem dX4_move_30 : decode cX4_move 30 = .ok (.iload 4, 2) := dk_21 (dq_lk dX4_move_v1 (r := 14) (x := 21) rfl) (dq_lk dX4_move_v1 (r := 15) (x := 4) rfl)
theorem dX4_move_32 : decode cX4_move 32 = .ok (.ifCond .eq 9, 3) := dk_153 (dq_lk dX4_move_v2 (r := 0) (x := 153) rfl) (dq_lk dX4_move_v2 (r := 1) (x := 0) rfl) (dq_lk dX4_move_v2 (r := 2) (x := 9) rfl) (by decide +kernel)
theorem dX4_move_35 : decode cX4_move 35 = .ok (.iload_n 3, 1) := dk_29 (dq_lk dX4_move_v2 (r := 3) (x := 29) rfl)
theorem dX4_move_36 : decode cX4_move 36 = .ok (.i2l, 1) := dk_133 (dq_lk dX4_move_v2 (r := 4) (x := 133) rfl)
theorem dX4_move_37 : decode cX4_move 37 = .ok (.lneg, 1) := dk_117 (dq_lk dX4_move_v2 (r := 5) (x := 117) rfl)
theorem dX4_move_38 : decode cX4_move 38 = .ok (.goto 5, 3) := dk_167 (dq_lk dX4_move_v2 (r := 6) (x := 167) rfl) (dq_lk dX4_move_v2 (r := 7) (x := 0) rfl) (dq_lk dX4_move_v2 (r := 8) (x := 5) rfl) (by decide +kernel)
theorem dX4_move_41 : decode cX4_move 41 = .ok (.iload_n 3, 1) := dk_29 (dq_lk dX4_move_v2 (r := 9) (x := 29) rfl)
theorem dX4_move_42 : decode cX4_move 42 = .ok (.i2l, 1) := dk_133 (dq_lk dX4_move_v2 (r := 10) (x := 133) rfl)
theorem dX4_move_43 : decode cX4_move 43 = .ok (.iload_n 2, 1) := dk_28 (dq_lk dX4_move_v2 (r := 11) (x := 28) rfl)
theorem dX4_move_44 : decode cX4_move 44 = .ok (.ifCond .ne 9, 3) := dk_154 (dq_lk dX4_move_v2 (r := 12) (x := 154) rfl) (dq_lk dX4_move_v2 (r := 13) (x := 0) rfl) (dq_lk dX4_move_v2 (r := 14) (x := 9) rfl) (by decide +kernel)
theorem dX4_move_47 : decode cX4_move 47 = .ok (.ldc2_w 96, 3) := dk_20 (dq_lk dX4_move_v2 (r := 15) (x := 20) rfl) (dq_lk dX4_move_v3 (r := 0) (x := 0) rfl) (dq_lk dX4_move_v3 (r := 1) (x := 96) rfl)
theorem dX4_move_50 : decode cX4_move 50 = .ok (.goto 15, 3) := dk_167 (dq_lk dX4_move_v3 (r := 2) (x := 167) rfl) (dq_lk dX4_move_v3 (r := 3) (x := 0) rfl) (dq_lk dX4_move_v3 (r := 4) (x := 15) rfl) (by decide +kernel)
theorem dX4_move_53 : decode cX4_move 53 = .ok (.iload_n 2, 1) := dk_28 (dq_lk dX4_move_v3 (r := 5) (x := 28) rfl)
theorem dX4_move_54 : decode cX4_move 54 = .ok (.iconst 1, 1) := dk_4 (dq_lk dX4_move_v3 (r := 6) (x := 4) rfl)
theorem dX4_move_55 : decode cX4_move 55 = .ok (.if_icmp .ne 9, 3) := dk_160 (dq_lk dX4_move_v3 (r := 7) (x := 160) rfl) (dq_lk dX4_move_v3 (r := 8) (x := 0) rfl) (dq_lk dX4_move_v3 (r := 9) (x := 9) rfl) (by decide +kernel)
theorem dX4_move_58 : decode cX4_move 58 = .ok (.ldc2_w 111, 3) := dk_20 (dq_lk dX4_move_v3 (r := 10) (x := 20) rfl) (dq_lk dX4_move_v3 (r := 11) (x := 0) rfl) (dq_lk dX4_move_v3 (r := 12) (x := 111) rfl)
theorem dX4_move_61 : decode cX4_move 61 = .ok (.goto 4, 3) := dk_167 (dq_lk dX4_move_v3 (r := 13) (x := 167) rfl) (dq_lk dX4_move_v3 (r := 14) (x := 0) rfl) (dq_lk dX4_move_v3 (r := 15) (x := 4) rfl) (by decide +kernel)
theorem dX4_move_64 : decode cX4_move 64 = .ok (.lconst 1, 1) := dk_10 (dq_lk dX4_move_v4 (r := 0) (x := 10) rfl)
theorem dX4_move_65 : decode cX4_move 65 = .ok (.lmul, 1) := dk_105 (dq_lk dX4_move_v4 (r := 1) (x := 105) rfl)
theorem dX4_move_66 : decode cX4_move 66 = .ok (.lstore 5, 2) := dk_55 (dq_lk dX4_move_v4 (r := 2) (x := 55) rfl) (dq_lk dX4_move_v4 (r := 3) (x := 5) rfl)
theorem dX4_move_68 : decode cX4_move 68 = .ok (.aload_n 0, 1) := dk_42 (dq_lk dX4_move_v4 (r := 4) (x := 42) rfl)
theorem dX4_move_69 : decode cX4_move 69 = .ok (.iload_n 1, 1) := dk_27 (dq_lk dX4_move_v4 (r := 5) (x := 27) rfl)
theorem dX4_move_70 : decode cX4_move 70 = .ok (.aload_n 0, 1) := dk_42 (dq_lk dX4_move_v4 (r := 6) (x := 42) rfl)
theorem dX4_move_71 : decode cX4_move 71 = .ok (.getfield 13, 3) := dk_180 (dq_lk dX4_move_v4 (r := 7) (x := 180) rfl) (dq_lk dX4_move_v4 (r := 8) (x := 0) rfl) (dq_lk dX4_move_v4 (r := 9) (x := 13) rfl)
theorem dX4_move_74 : decode cX4_move 74 = .ok (.iload_n 1, 1) := dk_27 (dq_lk dX4_move_v4 (r := 10) (x := 27) rfl)
theorem dX4_move_75 : decode cX4_move 75 = .ok (.laload, 1) := dk_47 (dq_lk dX4_move_v4 (r := 11) (x := 47) rfl)
theorem dX4_move_76 : decode cX4_move 76 = .ok (.lload 5, 2) := dk_22 (dq_lk dX4_move_v4 (r := 12) (x := 22) rfl) (dq_lk dX4_move_v4 (r := 13) (x := 5) rfl)
theorem dX4_move_78 : decode cX4_move 78 = .ok (.ladd, 1) := dk_97 (dq_lk dX4_move_v4 (r := 14) (x := 97) rfl)
theorem dX4_move_79 : decode cX4_move 79 = .ok (.invokevirtual 105, 3) := dk_182 (dq_lk dX4_move_v4 (r := 15) (x := 182) rfl) (dq_lk dX4_move_v5 (r := 0) (x := 0) rfl) (dq_lk dX4_move_v5 (r := 1) (x := 105) rfl)
theorem dX4_move_82 : decode cX4_move 82 = .ok (.ireturn, 1) := dk_172 (dq_lk dX4_move_v5 (r := 2) (x := 172) rfl)
theorem dX4_number_v0 : (cX4_number.data.toList.drop 0).take 16 = [20, 0, 113, 42, 180, 0, 17, 27, 46, 133, 105, 42, 180, 0, 20, 27] := by decide +kernel
theorem dX4_number_v1 : (cX4_number.data.toList.drop 16).take 16 = [46, 133, 97, 42, 180, 0, 26, 27, 46, 133, 101, 20, 0, 96, 105, 42] := by decide +kernel
theorem dX4_number_v2 : (cX4_number.data.toList.drop 32).take 16 = [180, 0, 23, 27, 46, 133, 97, 173] := by decide +kernel
theorem dX4_number_0 : decode cX4_number 0 = .ok (.ldc2_w 113, 3) := dk_20 (dq_lk dX4_number_v0 (r := 0) (x := 20) rfl) (dq_lk dX4_number_v0 (r := 1) (x := 0) rfl) (dq_lk dX4_number_v0 (r := 2) (x := 113) rfl)
theorem dX4_number_3 : decode cX4_number 3 = .ok (.aload_n 0, 1) := dk_42 (dq_lk dX4_number_v0 (r := 3) (x := 42) rfl)
theorem dX4_number_4 : decode cX4_number 4 = .ok (.getfield 17, 3) := dk_180 (dq_lk dX4_number_v0 (r := 4) (x := 180) rfl) (dq_lk dX4_number_v0 (r := 5) (x := 0) rfl) (dq_lk dX4_number_v0 (r := 6) (x := 17) rfl)
theorem dX4_number_7 : decode cX4_number 7 = .ok (.iload_n 1, 1) := dk_27 (dq_lk dX4_number_v0 (r := 7) (x := 27) rfl)
theorem dX4_number_8 : decode cX4_number 8 = .ok (.iaload, 1) := dk_46 (dq_lk dX4_number_v0 (r := 8) (x := 46) rfl)
theorem dX4_number_9 : decode cX4_number 9 = .ok (.i2l, 1) := dk_133 (dq_lk dX4_number_v0 (r := 9) (x := 133) rfl)
theorem dX4_number_10 : decode cX4_number 10 = .ok (.lmul, 1) := dk_105 (dq_lk dX4_number_v0 (r := 10) (x := 105) rfl)
theorem dX4_number_11 : decode cX4_number 11 = .ok (.aload_n 0, 1) := dk_42 (dq_lk dX4_number_v0 (r := 11) (x := 42) rfl)
theorem dX4_number_12 : decode cX4_number 12 = .ok (.getfield 20, 3) := dk_180 (dq_lk dX4_number_v0 (r := 12) (x := 180) rfl) (dq_lk dX4_number_v0 (r := 13) (x := 0) rfl) (dq_lk dX4_number_v0 (r := 14) (x := 20) rfl)
theorem dX4_number_15 : decode cX4_number 15 = .ok (.iload_n 1, 1) := dk_27 (dq_lk dX4_number_v0 (r := 15) (x := 27) rfl)
theorem dX4_number_16 : decode cX4_number 16 = .ok (.iaload, 1) := dk_46 (dq_lk dX4_number_v1 (r := 0) (x := 46) rfl)
theorem dX4_number_17 : decode cX4_number 17 = .ok (.i2l, 1) := dk_133 (dq_lk dX4_number_v1 (r := 1) (x := 133) rfl)
theorem dX4_number_18 : decode cX4_number 18 = .ok (.ladd, 1) := dk_97 (dq_lk dX4_number_v1 (r := 2) (x := 97) rfl)
theorem dX4_number_19 : decode cX4_number 19 = .ok (.aload_n 0, 1) := dk_42 (dq_lk dX4_number_v1 (r := 3) (x := 42) rfl)
theorem dX4_number_20 : decode cX4_number 20 = .ok (.getfield 26, 3) := dk_180 (dq_lk dX4_number_v1 (r := 4) (x := 180) rfl) (dq_lk dX4_number_v1 (r := 5) (x := 0) rfl) (dq_lk dX4_number_v1 (r := 6) (x := 26) rfl)
theorem dX4_number_23 : decode cX4_number 23 = .ok (.iload_n 1, 1) := dk_27 (dq_lk dX4_number_v1 (r := 7) (x := 27) rfl)
theorem dX4_number_24 : decode cX4_number 24 = .ok (.iaload, 1) := dk_46 (dq_lk dX4_number_v1 (r := 8) (x := 46) rfl)
theorem dX4_number_25 : decode cX4_number 25 = .ok (.i2l, 1) := dk_133 (dq_lk dX4_number_v1 (r := 9) (x := 133) rfl)
theorem dX4_number_26 : decode cX4_number 26 = .ok (.lsub, 1) := dk_101 (dq_lk dX4_number_v1 (r := 10) (x := 101) rfl)
theorem dX4_number_27 : decode cX4_number 27 = .ok (.ldc2_w 96, 3) := dk_20 (dq_lk dX4_number_v1 (r := 11) (x := 20) rfl) (dq_lk dX4_number_v1 (r := 12) (x := 0) rfl) (dq_lk dX4_number_v1 (r := 13) (x := 96) rfl)
theorem dX4_number_30 : decode cX4_number 30 = .ok (.lmul, 1) := dk_105 (dq_lk dX4_number_v1 (r := 14) (x := 105) rfl)
theorem dX4_number_31 : decode cX4_number 31 = .ok (.aload_n 0, 1) := dk_42 (dq_lk dX4_number_v1 (r := 15) (x := 42) rfl)
theorem dX4_number_32 : decode cX4_number 32 = .ok (.getfield 23, 3) := dk_180 (dq_lk dX4_number_v2 (r := 0) (x := 180) rfl) (dq_lk dX4_number_v2 (r := 1) (x := 0) rfl) (dq_lk dX4_number_v2 (r := 2) (x := 23) rfl)
theorem dX4_number_35 : decode cX4_number 35 = .ok (.iload_n 1, 1) := dk_27 (dq_lk dX4_number_v2 (r := 3) (x := 27) rfl)
theorem dX4_number_36 : decode cX4_number 36 = .ok (.iaload, 1) := dk_46 (dq_lk dX4_number_v2 (r := 4) (x := 46) rfl)
theorem dX4_number_37 : decode cX4_number 37 = .ok (.i2l, 1) := dk_133 (dq_lk dX4_number_v2 (r := 5) (x := 133) rfl)
theorem dX4_number_38 : decode cX4_number 38 = .ok (.ladd, 1) := dk_97 (dq_lk dX4_number_v2 (r := 6) (x := 97) rfl)
theorem dX4_number_39 : decode cX4_number 39 = .ok (.lreturn, 1) := dk_173 (dq_lk dX4_number_v2 (r := 7) (x := 173) rfl)
theorem dX4_momentOf_v0 : (cX4_momentOf.data.toList.drop 0).take 16 = [42, 27, 184, 0, 61, 154, 0, 10, 28, 184, 0, 61, 153, 0, 7, 4] := by decide +kernel
theorem dX4_momentOf_v1 : (cX4_momentOf.data.toList.drop 16).take 16 = [167, 0, 4, 3, 3, 182, 0, 68, 153, 0, 7, 3, 167, 0, 13, 42] := by decide +kernel
theorem dX4_momentOf_v2 : (cX4_momentOf.data.toList.drop 32).take 16 = [27, 42, 28, 182, 0, 115, 182, 0, 105, 172] := by decide +kernel
theorem dX4_momentOf_0 : decode cX4_momentOf 0 = .ok (.aload_n 0, 1) := dk_42 (dq_lk dX4_momentOf_v0 (r := 0) (x := 42) rfl)
theorem dX4_momentOf_1 : decode cX4_momentOf 1 = .ok (.iload_n 1, 1) := dk_27 (dq_lk dX4_momentOf_v0 (r := 1) (x := 27) rfl)
theorem dX4_momentOf_2 : decode cX4_momentOf 2 = .ok (.invokestatic 61, 3) := dk_184 (dq_lk dX4_momentOf_v0 (r := 2) (x := 184) rfl) (dq_lk dX4_momentOf_v0 (r := 3) (x := 0) rfl) (dq_lk dX4_momentOf_v0 (r := 4) (x := 61) rfl)
theorem dX4_momentOf_5 : decode cX4_momentOf 5 = .ok (.ifCond .ne 10, 3) := dk_154 (dq_lk dX4_momentOf_v0 (r := 5) (x := 154) rfl) (dq_lk dX4_momentOf_v0 (r := 6) (x := 0) rfl) (dq_lk dX4_momentOf_v0 (r := 7) (x := 10) rfl) (by decide +kernel)
theorem dX4_momentOf_8 : decode cX4_momentOf 8 = .ok (.iload_n 2, 1) := dk_28 (dq_lk dX4_momentOf_v0 (r := 8) (x := 28) rfl)
theorem dX4_momentOf_9 : decode cX4_momentOf 9 = .ok (.invokestatic 61, 3) := dk_184 (dq_lk dX4_momentOf_v0 (r := 9) (x := 184) rfl) (dq_lk dX4_momentOf_v0 (r := 10) (x := 0) rfl) (dq_lk dX4_momentOf_v0 (r := 11) (x := 61) rfl)
theorem dX4_momentOf_12 : decode cX4_momentOf 12 = .ok (.ifCond .eq 7, 3) := dk_153 (dq_lk dX4_momentOf_v0 (r := 12) (x := 153) rfl) (dq_lk dX4_momentOf_v0 (r := 13) (x := 0) rfl) (dq_lk dX4_momentOf_v0 (r := 14) (x := 7) rfl) (by decide +kernel)
theorem dX4_momentOf_15 : decode cX4_momentOf 15 = .ok (.iconst 1, 1) := dk_4 (dq_lk dX4_momentOf_v0 (r := 15) (x := 4) rfl)
theorem dX4_momentOf_16 : decode cX4_momentOf 16 = .ok (.goto 4, 3) := dk_167 (dq_lk dX4_momentOf_v1 (r := 0) (x := 167) rfl) (dq_lk dX4_momentOf_v1 (r := 1) (x := 0) rfl) (dq_lk dX4_momentOf_v1 (r := 2) (x := 4) rfl) (by decide +kernel)
theorem dX4_momentOf_19 : decode cX4_momentOf 19 = .ok (.iconst 0, 1) := dk_3 (dq_lk dX4_momentOf_v1 (r := 3) (x := 3) rfl)
theorem dX4_momentOf_20 : decode cX4_momentOf 20 = .ok (.iconst 0, 1) := dk_3 (dq_lk dX4_momentOf_v1 (r := 4) (x := 3) rfl)
theorem dX4_momentOf_21 : decode cX4_momentOf 21 = .ok (.invokevirtual 68, 3) := dk_182 (dq_lk dX4_momentOf_v1 (r := 5) (x := 182) rfl) (dq_lk dX4_momentOf_v1 (r := 6) (x := 0) rfl) (dq_lk dX4_momentOf_v1 (r := 7) (x := 68) rfl)
theorem dX4_momentOf_24 : decode cX4_momentOf 24 = .ok (.ifCond .eq 7, 3) := dk_153 (dq_lk dX4_momentOf_v1 (r := 8) (x := 153) rfl) (dq_lk dX4_momentOf_v1 (r := 9) (x := 0) rfl) (dq_lk dX4_momentOf_v1 (r := 10) (x := 7) rfl) (by decide +kernel)
theorem dX4_momentOf_27 : decode cX4_momentOf 27 = .ok (.iconst 0, 1) := dk_3 (dq_lk dX4_momentOf_v1 (r := 11) (x := 3) rfl)
theorem dX4_momentOf_28 : decode cX4_momentOf 28 = .ok (.goto 13, 3) := dk_167 (dq_lk dX4_momentOf_v1 (r := 12) (x := 167) rfl) (dq_lk dX4_momentOf_v1 (r := 13) (x := 0) rfl) (dq_lk dX4_momentOf_v1 (r := 14) (x := 13) rfl) (by decide +kernel)
theorem dX4_momentOf_31 : decode cX4_momentOf 31 = .ok (.aload_n 0, 1) := dk_42 (dq_lk dX4_momentOf_v1 (r := 15) (x := 42) rfl)
theorem dX4_momentOf_32 : decode cX4_momentOf 32 = .ok (.iload_n 1, 1) := dk_27 (dq_lk dX4_momentOf_v2 (r := 0) (x := 27) rfl)
theorem dX4_momentOf_33 : decode cX4_momentOf 33 = .ok (.aload_n 0, 1) := dk_42 (dq_lk dX4_momentOf_v2 (r := 1) (x := 42) rfl)
theorem dX4_momentOf_34 : decode cX4_momentOf 34 = .ok (.iload_n 2, 1) := dk_28 (dq_lk dX4_momentOf_v2 (r := 2) (x := 28) rfl)
theorem dX4_momentOf_35 : decode cX4_momentOf 35 = .ok (.invokevirtual 115, 3) := dk_182 (dq_lk dX4_momentOf_v2 (r := 3) (x := 182) rfl) (dq_lk dX4_momentOf_v2 (r := 4) (x := 0) rfl) (dq_lk dX4_momentOf_v2 (r := 5) (x := 115) rfl)
theorem dX4_momentOf_38 : decode cX4_momentOf 38 = .ok (.invokevirtual 105, 3) := dk_182 (dq_lk dX4_momentOf_v2 (r := 6) (x := 182) rfl) (dq_lk dX4_momentOf_v2 (r := 7) (x := 0) rfl) (dq_lk dX4_momentOf_v2 (r := 8) (x := 105) rfl)
theorem dX4_momentOf_41 : decode cX4_momentOf 41 = .ok (.ireturn, 1) := dk_172 (dq_lk dX4_momentOf_v2 (r := 9) (x := 172) rfl)
theorem dX4_copyMoment_v0 : (cX4_copyMoment.data.toList.drop 0).take 16 = [42, 27, 184, 0, 61, 154, 0, 10, 28, 184, 0, 61, 153, 0, 7, 4] := by decide +kernel
theorem dX4_copyMoment_v1 : (cX4_copyMoment.data.toList.drop 16).take 16 = [167, 0, 4, 3, 3, 182, 0, 68, 153, 0, 7, 3, 167, 0, 14, 42] := by decide +kernel
theorem dX4_copyMoment_v2 : (cX4_copyMoment.data.toList.drop 32).take 16 = [27, 42, 180, 0, 13, 28, 47, 182, 0, 105, 172] := by decide +kernel
theorem dX4_copyMoment_0 : decode cX4_copyMoment 0 = .ok (.aload_n 0, 1) := dk_42 (dq_lk dX4_copyMoment_v0 (r := 0) (x := 42) rfl)
theorem dX4_copyMoment_1 : decode cX4_copyMoment 1 = .ok (.iload_n 1, 1) := dk_27 (dq_lk dX4_copyMoment_v0 (r := 1) (x := 27) rfl)
theorem dX4_copyMoment_2 : decode cX4_copyMoment 2 = .ok (.invokestatic 61, 3) := dk_184 (dq_lk dX4_copyMoment_v0 (r := 2) (x := 184) rfl) (dq_lk dX4_copyMoment_v0 (r := 3) (x := 0) rfl) (dq_lk dX4_copyMoment_v0 (r := 4) (x := 61) rfl)
theorem dX4_copyMoment_5 : decode cX4_copyMoment 5 = .ok (.ifCond .ne 10, 3) := dk_154 (dq_lk dX4_copyMoment_v0 (r := 5) (x := 154) rfl) (dq_lk dX4_copyMoment_v0 (r := 6) (x := 0) rfl) (dq_lk dX4_copyMoment_v0 (r := 7) (x := 10) rfl) (by decide +kernel)
theorem dX4_copyMoment_8 : decode cX4_copyMoment 8 = .ok (.iload_n 2, 1) := dk_28 (dq_lk dX4_copyMoment_v0 (r := 8) (x := 28) rfl)
theorem dX4_copyMoment_9 : decode cX4_copyMoment 9 = .ok (.invokestatic 61, 3) := dk_184 (dq_lk dX4_copyMoment_v0 (r := 9) (x := 184) rfl) (dq_lk dX4_copyMoment_v0 (r := 10) (x := 0) rfl) (dq_lk dX4_copyMoment_v0 (r := 11) (x := 61) rfl)
theorem dX4_copyMoment_12 : decode cX4_copyMoment 12 = .ok (.ifCond .eq 7, 3) := dk_153 (dq_lk dX4_copyMoment_v0 (r := 12) (x := 153) rfl) (dq_lk dX4_copyMoment_v0 (r := 13) (x := 0) rfl) (dq_lk dX4_copyMoment_v0 (r := 14) (x := 7) rfl) (by decide +kernel)
theorem dX4_copyMoment_15 : decode cX4_copyMoment 15 = .ok (.iconst 1, 1) := dk_4 (dq_lk dX4_copyMoment_v0 (r := 15) (x := 4) rfl)
theorem dX4_copyMoment_16 : decode cX4_copyMoment 16 = .ok (.goto 4, 3) := dk_167 (dq_lk dX4_copyMoment_v1 (r := 0) (x := 167) rfl) (dq_lk dX4_copyMoment_v1 (r := 1) (x := 0) rfl) (dq_lk dX4_copyMoment_v1 (r := 2) (x := 4) rfl) (by decide +kernel)
theorem dX4_copyMoment_19 : decode cX4_copyMoment 19 = .ok (.iconst 0, 1) := dk_3 (dq_lk dX4_copyMoment_v1 (r := 3) (x := 3) rfl)
theorem dX4_copyMoment_20 : decode cX4_copyMoment 20 = .ok (.iconst 0, 1) := dk_3 (dq_lk dX4_copyMoment_v1 (r := 4) (x := 3) rfl)
theorem dX4_copyMoment_21 : decode cX4_copyMoment 21 = .ok (.invokevirtual 68, 3) := dk_182 (dq_lk dX4_copyMoment_v1 (r := 5) (x := 182) rfl) (dq_lk dX4_copyMoment_v1 (r := 6) (x := 0) rfl) (dq_lk dX4_copyMoment_v1 (r := 7) (x := 68) rfl)
theorem dX4_copyMoment_24 : decode cX4_copyMoment 24 = .ok (.ifCond .eq 7, 3) := dk_153 (dq_lk dX4_copyMoment_v1 (r := 8) (x := 153) rfl) (dq_lk dX4_copyMoment_v1 (r := 9) (x := 0) rfl) (dq_lk dX4_copyMoment_v1 (r := 10) (x := 7) rfl) (by decide +kernel)
theorem dX4_copyMoment_27 : decode cX4_copyMoment 27 = .ok (.iconst 0, 1) := dk_3 (dq_lk dX4_copyMoment_v1 (r := 11) (x := 3) rfl)
theorem dX4_copyMoment_28 : decode cX4_copyMoment 28 = .ok (.goto 14, 3) := dk_167 (dq_lk dX4_copyMoment_v1 (r := 12) (x := 167) rfl) (dq_lk dX4_copyMoment_v1 (r := 13) (x := 0) rfl) (dq_lk dX4_copyMoment_v1 (r := 14) (x := 14) rfl) (by decide +kernel)
theorem dX4_copyMoment_31 : decode cX4_copyMoment 31 = .ok (.aload_n 0, 1) := dk_42 (dq_lk dX4_copyMoment_v1 (r := 15) (x := 42) rfl)
theorem dX4_copyMoment_32 : decode cX4_copyMoment 32 = .ok (.iload_n 1, 1) := dk_27 (dq_lk dX4_copyMoment_v2 (r := 0) (x := 27) rfl)
theorem dX4_copyMoment_33 : decode cX4_copyMoment 33 = .ok (.aload_n 0, 1) := dk_42 (dq_lk dX4_copyMoment_v2 (r := 1) (x := 42) rfl)
theorem dX4_copyMoment_34 : decode cX4_copyMoment 34 = .ok (.getfield 13, 3) := dk_180 (dq_lk dX4_copyMoment_v2 (r := 2) (x := 180) rfl) (dq_lk dX4_copyMoment_v2 (r := 3) (x := 0) rfl) (dq_lk dX4_copyMoment_v2 (r := 4) (x := 13) rfl)
theorem dX4_copyMoment_37 : decode cX4_copyMoment 37 = .ok (.iload_n 2, 1) := dk_28 (dq_lk dX4_copyMoment_v2 (r := 5) (x := 28) rfl)
theorem dX4_copyMoment_38 : decode cX4_copyMoment 38 = .ok (.laload, 1) := dk_47 (dq_lk dX4_copyMoment_v2 (r := 6) (x := 47) rfl)
theorem dX4_copyMoment_39 : decode cX4_copyMoment 39 = .ok (.invokevirtual 105, 3) := dk_182 (dq_lk dX4_copyMoment_v2 (r := 7) (x := 182) rfl) (dq_lk dX4_copyMoment_v2 (r := 8) (x := 0) rfl) (dq_lk dX4_copyMoment_v2 (r := 9) (x := 105) rfl)
theorem dX4_copyMoment_42 : decode cX4_copyMoment 42 = .ok (.ireturn, 1) := dk_172 (dq_lk dX4_copyMoment_v2 (r := 10) (x := 172) rfl)
theorem dX4_ofMoment_v0 : (cX4_ofMoment.data.toList.drop 0).take 16 = [42, 27, 184, 0, 61, 3, 182, 0, 68, 153, 0, 5, 3, 172, 28, 153] := by decide +kernel
theorem dX4_ofMoment_v1 : (cX4_ofMoment.data.toList.drop 16).take 16 = [0, 18, 42, 180, 0, 13, 27, 47, 20, 0, 96, 184, 0, 102, 167, 0] := by decide +kernel
theorem dX4_ofMoment_v2 : (cX4_ofMoment.data.toList.drop 32).take 16 = [16, 42, 180, 0, 13, 27, 47, 20, 0, 96, 184, 0, 92, 136, 172] := by decide +kernel
theorem dX4_ofMoment_0 : decode cX4_ofMoment 0 = .ok (.aload_n 0, 1) := dk_42 (dq_lk dX4_ofMoment_v0 (r := 0) (x := 42) rfl)
theorem dX4_ofMoment_1 : decode cX4_ofMoment 1 = .ok (.iload_n 1, 1) := dk_27 (dq_lk dX4_ofMoment_v0 (r := 1) (x := 27) rfl)
theorem dX4_ofMoment_2 : decode cX4_ofMoment 2 = .ok (.invokestatic 61, 3) := dk_184 (dq_lk dX4_ofMoment_v0 (r := 2) (x := 184) rfl) (dq_lk dX4_ofMoment_v0 (r := 3) (x := 0) rfl) (dq_lk dX4_ofMoment_v0 (r := 4) (x := 61) rfl)
theorem dX4_ofMoment_5 : decode cX4_ofMoment 5 = .ok (.iconst 0, 1) := dk_3 (dq_lk dX4_ofMoment_v0 (r := 5) (x := 3) rfl)
theorem dX4_ofMoment_6 : decode cX4_ofMoment 6 = .ok (.invokevirtual 68, 3) := dk_182 (dq_lk dX4_ofMoment_v0 (r := 6) (x := 182) rfl) (dq_lk dX4_ofMoment_v0 (r := 7) (x := 0) rfl) (dq_lk dX4_ofMoment_v0 (r := 8) (x := 68) rfl)
theorem dX4_ofMoment_9 : decode cX4_ofMoment 9 = .ok (.ifCond .eq 5, 3) := dk_153 (dq_lk dX4_ofMoment_v0 (r := 9) (x := 153) rfl) (dq_lk dX4_ofMoment_v0 (r := 10) (x := 0) rfl) (dq_lk dX4_ofMoment_v0 (r := 11) (x := 5) rfl) (by decide +kernel)
theorem dX4_ofMoment_12 : decode cX4_ofMoment 12 = .ok (.iconst 0, 1) := dk_3 (dq_lk dX4_ofMoment_v0 (r := 12) (x := 3) rfl)
theorem dX4_ofMoment_13 : decode cX4_ofMoment 13 = .ok (.ireturn, 1) := dk_172 (dq_lk dX4_ofMoment_v0 (r := 13) (x := 172) rfl)
theorem dX4_ofMoment_14 : decode cX4_ofMoment 14 = .ok (.iload_n 2, 1) := dk_28 (dq_lk dX4_ofMoment_v0 (r := 14) (x := 28) rfl)
theorem dX4_ofMoment_15 : decode cX4_ofMoment 15 = .ok (.ifCond .eq 18, 3) := dk_153 (dq_lk dX4_ofMoment_v0 (r := 15) (x := 153) rfl) (dq_lk dX4_ofMoment_v1 (r := 0) (x := 0) rfl) (dq_lk dX4_ofMoment_v1 (r := 1) (x := 18) rfl) (by decide +kernel)
theorem dX4_ofMoment_18 : decode cX4_ofMoment 18 = .ok (.aload_n 0, 1) := dk_42 (dq_lk dX4_ofMoment_v1 (r := 2) (x := 42) rfl)
theorem dX4_ofMoment_19 : decode cX4_ofMoment 19 = .ok (.getfield 13, 3) := dk_180 (dq_lk dX4_ofMoment_v1 (r := 3) (x := 180) rfl) (dq_lk dX4_ofMoment_v1 (r := 4) (x := 0) rfl) (dq_lk dX4_ofMoment_v1 (r := 5) (x := 13) rfl)
theorem dX4_ofMoment_22 : decode cX4_ofMoment 22 = .ok (.iload_n 1, 1) := dk_27 (dq_lk dX4_ofMoment_v1 (r := 6) (x := 27) rfl)
theorem dX4_ofMoment_23 : decode cX4_ofMoment 23 = .ok (.laload, 1) := dk_47 (dq_lk dX4_ofMoment_v1 (r := 7) (x := 47) rfl)
theorem dX4_ofMoment_24 : decode cX4_ofMoment 24 = .ok (.ldc2_w 96, 3) := dk_20 (dq_lk dX4_ofMoment_v1 (r := 8) (x := 20) rfl) (dq_lk dX4_ofMoment_v1 (r := 9) (x := 0) rfl) (dq_lk dX4_ofMoment_v1 (r := 10) (x := 96) rfl)
theorem dX4_ofMoment_27 : decode cX4_ofMoment 27 = .ok (.invokestatic 102, 3) := dk_184 (dq_lk dX4_ofMoment_v1 (r := 11) (x := 184) rfl) (dq_lk dX4_ofMoment_v1 (r := 12) (x := 0) rfl) (dq_lk dX4_ofMoment_v1 (r := 13) (x := 102) rfl)
theorem dX4_ofMoment_30 : decode cX4_ofMoment 30 = .ok (.goto 16, 3) := dk_167 (dq_lk dX4_ofMoment_v1 (r := 14) (x := 167) rfl) (dq_lk dX4_ofMoment_v1 (r := 15) (x := 0) rfl) (dq_lk dX4_ofMoment_v2 (r := 0) (x := 16) rfl) (by decide +kernel)
theorem dX4_ofMoment_33 : decode cX4_ofMoment 33 = .ok (.aload_n 0, 1) := dk_42 (dq_lk dX4_ofMoment_v2 (r := 1) (x := 42) rfl)
theorem dX4_ofMoment_34 : decode cX4_ofMoment 34 = .ok (.getfield 13, 3) := dk_180 (dq_lk dX4_ofMoment_v2 (r := 2) (x := 180) rfl) (dq_lk dX4_ofMoment_v2 (r := 3) (x := 0) rfl) (dq_lk dX4_ofMoment_v2 (r := 4) (x := 13) rfl)
theorem dX4_ofMoment_37 : decode cX4_ofMoment 37 = .ok (.iload_n 1, 1) := dk_27 (dq_lk dX4_ofMoment_v2 (r := 5) (x := 27) rfl)
theorem dX4_ofMoment_38 : decode cX4_ofMoment 38 = .ok (.laload, 1) := dk_47 (dq_lk dX4_ofMoment_v2 (r := 6) (x := 47) rfl)
theorem dX4_ofMoment_39 : decode cX4_ofMoment 39 = .ok (.ldc2_w 96, 3) := dk_20 (dq_lk dX4_ofMoment_v2 (r := 7) (x := 20) rfl) (dq_lk dX4_ofMoment_v2 (r := 8) (x := 0) rfl) (dq_lk dX4_ofMoment_v2 (r := 9) (x := 96) rfl)
theorem dX4_ofMoment_42 : decode cX4_ofMoment 42 = .ok (.invokestatic 92, 3) := dk_184 (dq_lk dX4_ofMoment_v2 (r := 10) (x := 184) rfl) (dq_lk dX4_ofMoment_v2 (r := 11) (x := 0) rfl) (dq_lk dX4_ofMoment_v2 (r := 12) (x := 92) rfl)
theorem dX4_ofMoment_45 : decode cX4_ofMoment 45 = .ok (.l2i, 1) := dk_136 (dq_lk dX4_ofMoment_v2 (r := 13) (x := 136) rfl)
theorem dX4_ofMoment_46 : decode cX4_ofMoment 46 = .ok (.ireturn, 1) := dk_172 (dq_lk dX4_ofMoment_v2 (r := 14) (x := 172) rfl)
theorem dX4_orderMoment_v0 : (cX4_orderMoment.data.toList.drop 0).take 16 = [42, 27, 184, 0, 61, 154, 0, 10, 28, 184, 0, 61, 153, 0, 7, 4] := by decide +kernel
theorem dX4_orderMoment_v1 : (cX4_orderMoment.data.toList.drop 16).take 16 = [167, 0, 4, 3, 3, 182, 0, 68, 153, 0, 7, 3, 167, 0, 18, 42] := by decide +kernel
theorem dX4_orderMoment_v2 : (cX4_orderMoment.data.toList.drop 32).take 16 = [180, 0, 13, 27, 47, 42, 180, 0, 13, 28, 47, 184, 0, 88, 172] := by decide +kernel
theorem dX4_orderMoment_0 : decode cX4_orderMoment 0 = .ok (.aload_n 0, 1) := dk_42 (dq_lk dX4_orderMoment_v0 (r := 0) (x := 42) rfl)
theorem dX4_orderMoment_1 : decode cX4_orderMoment 1 = .ok (.iload_n 1, 1) := dk_27 (dq_lk dX4_orderMoment_v0 (r := 1) (x := 27) rfl)
theorem dX4_orderMoment_2 : decode cX4_orderMoment 2 = .ok (.invokestatic 61, 3) := dk_184 (dq_lk dX4_orderMoment_v0 (r := 2) (x := 184) rfl) (dq_lk dX4_orderMoment_v0 (r := 3) (x := 0) rfl) (dq_lk dX4_orderMoment_v0 (r := 4) (x := 61) rfl)
theorem dX4_orderMoment_5 : decode cX4_orderMoment 5 = .ok (.ifCond .ne 10, 3) := dk_154 (dq_lk dX4_orderMoment_v0 (r := 5) (x := 154) rfl) (dq_lk dX4_orderMoment_v0 (r := 6) (x := 0) rfl) (dq_lk dX4_orderMoment_v0 (r := 7) (x := 10) rfl) (by decide +kernel)
theorem dX4_orderMoment_8 : decode cX4_orderMoment 8 = .ok (.iload_n 2, 1) := dk_28 (dq_lk dX4_orderMoment_v0 (r := 8) (x := 28) rfl)
theorem dX4_orderMoment_9 : decode cX4_orderMoment 9 = .ok (.invokestatic 61, 3) := dk_184 (dq_lk dX4_orderMoment_v0 (r := 9) (x := 184) rfl) (dq_lk dX4_orderMoment_v0 (r := 10) (x := 0) rfl) (dq_lk dX4_orderMoment_v0 (r := 11) (x := 61) rfl)
theorem dX4_orderMoment_12 : decode cX4_orderMoment 12 = .ok (.ifCond .eq 7, 3) := dk_153 (dq_lk dX4_orderMoment_v0 (r := 12) (x := 153) rfl) (dq_lk dX4_orderMoment_v0 (r := 13) (x := 0) rfl) (dq_lk dX4_orderMoment_v0 (r := 14) (x := 7) rfl) (by decide +kernel)
theorem dX4_orderMoment_15 : decode cX4_orderMoment 15 = .ok (.iconst 1, 1) := dk_4 (dq_lk dX4_orderMoment_v0 (r := 15) (x := 4) rfl)
theorem dX4_orderMoment_16 : decode cX4_orderMoment 16 = .ok (.goto 4, 3) := dk_167 (dq_lk dX4_orderMoment_v1 (r := 0) (x := 167) rfl) (dq_lk dX4_orderMoment_v1 (r := 1) (x := 0) rfl) (dq_lk dX4_orderMoment_v1 (r := 2) (x := 4) rfl) (by decide +kernel)
theorem dX4_orderMoment_19 : decode cX4_orderMoment 19 = .ok (.iconst 0, 1) := dk_3 (dq_lk dX4_orderMoment_v1 (r := 3) (x := 3) rfl)
theorem dX4_orderMoment_20 : decode cX4_orderMoment 20 = .ok (.iconst 0, 1) := dk_3 (dq_lk dX4_orderMoment_v1 (r := 4) (x := 3) rfl)
theorem dX4_orderMoment_21 : decode cX4_orderMoment 21 = .ok (.invokevirtual 68, 3) := dk_182 (dq_lk dX4_orderMoment_v1 (r := 5) (x := 182) rfl) (dq_lk dX4_orderMoment_v1 (r := 6) (x := 0) rfl) (dq_lk dX4_orderMoment_v1 (r := 7) (x := 68) rfl)
theorem dX4_orderMoment_24 : decode cX4_orderMoment 24 = .ok (.ifCond .eq 7, 3) := dk_153 (dq_lk dX4_orderMoment_v1 (r := 8) (x := 153) rfl) (dq_lk dX4_orderMoment_v1 (r := 9) (x := 0) rfl) (dq_lk dX4_orderMoment_v1 (r := 10) (x := 7) rfl) (by decide +kernel)
theorem dX4_orderMoment_27 : decode cX4_orderMoment 27 = .ok (.iconst 0, 1) := dk_3 (dq_lk dX4_orderMoment_v1 (r := 11) (x := 3) rfl)
theorem dX4_orderMoment_28 : decode cX4_orderMoment 28 = .ok (.goto 18, 3) := dk_167 (dq_lk dX4_orderMoment_v1 (r := 12) (x := 167) rfl) (dq_lk dX4_orderMoment_v1 (r := 13) (x := 0) rfl) (dq_lk dX4_orderMoment_v1 (r := 14) (x := 18) rfl) (by decide +kernel)
theorem dX4_orderMoment_31 : decode cX4_orderMoment 31 = .ok (.aload_n 0, 1) := dk_42 (dq_lk dX4_orderMoment_v1 (r := 15) (x := 42) rfl)
theorem dX4_orderMoment_32 : decode cX4_orderMoment 32 = .ok (.getfield 13, 3) := dk_180 (dq_lk dX4_orderMoment_v2 (r := 0) (x := 180) rfl) (dq_lk dX4_orderMoment_v2 (r := 1) (x := 0) rfl) (dq_lk dX4_orderMoment_v2 (r := 2) (x := 13) rfl)
theorem dX4_orderMoment_35 : decode cX4_orderMoment 35 = .ok (.iload_n 1, 1) := dk_27 (dq_lk dX4_orderMoment_v2 (r := 3) (x := 27) rfl)
theorem dX4_orderMoment_36 : decode cX4_orderMoment 36 = .ok (.laload, 1) := dk_47 (dq_lk dX4_orderMoment_v2 (r := 4) (x := 47) rfl)
theorem dX4_orderMoment_37 : decode cX4_orderMoment 37 = .ok (.aload_n 0, 1) := dk_42 (dq_lk dX4_orderMoment_v2 (r := 5) (x := 42) rfl)
theorem dX4_orderMoment_38 : decode cX4_orderMoment 38 = .ok (.getfield 13, 3) := dk_180 (dq_lk dX4_orderMoment_v2 (r := 6) (x := 180) rfl) (dq_lk dX4_orderMoment_v2 (r := 7) (x := 0) rfl) (dq_lk dX4_orderMoment_v2 (r := 8) (x := 13) rfl)
theorem dX4_orderMoment_41 : decode cX4_orderMoment 41 = .ok (.iload_n 2, 1) := dk_28 (dq_lk dX4_orderMoment_v2 (r := 9) (x := 28) rfl)
theorem dX4_orderMoment_42 : decode cX4_orderMoment 42 = .ok (.laload, 1) := dk_47 (dq_lk dX4_orderMoment_v2 (r := 10) (x := 47) rfl)
theorem dX4_orderMoment_43 : decode cX4_orderMoment 43 = .ok (.invokestatic 88, 3) := dk_184 (dq_lk dX4_orderMoment_v2 (r := 11) (x := 184) rfl) (dq_lk dX4_orderMoment_v2 (r := 12) (x := 0) rfl) (dq_lk dX4_orderMoment_v2 (r := 13) (x := 88) rfl)
theorem dX4_orderMoment_46 : decode cX4_orderMoment 46 = .ok (.ireturn, 1) := dk_172 (dq_lk dX4_orderMoment_v2 (r := 14) (x := 172) rfl)
theorem dX4_isMoment_w0 : (cX4_isMoment.data.toList.drop 0).take 64 = [42, 27, 184, 0, 61, 154, 0, 10, 28, 184, 0, 61, 153, 0, 7, 4, 167, 0, 4, 3, 29, 133, 9, 20, 0, 42, 184, 0, 38, 154, 0, 7, 4, 167, 0, 4, 3, 182, 0, 68, 153, 0, 5, 3, 172, 42, 180, 0, 13, 27, 47, 42, 180, 0, 13, 28, 47, 184, 0, 88, 29, 154, 0, 7] := by decide +kernel
theorem dX4_isMoment_w1 : (cX4_isMoment.data.toList.drop 64).take 64 = [2, 167, 0, 13, 29, 4, 160, 0, 7, 4, 167, 0, 4, 3, 160, 0, 7, 4, 167, 0, 4, 3, 172] := by decide +kernel
theorem dX4_isMoment_v0 : (cX4_isMoment.data.toList.drop 0).take 16 = [42, 27, 184, 0, 61, 154, 0, 10, 28, 184, 0, 61, 153, 0, 7, 4] := dq_sub (n := 0) (j := 0) dX4_isMoment_w0 (by decide) rfl
theorem dX4_isMoment_v1 : (cX4_isMoment.data.toList.drop 16).take 16 = [167, 0, 4, 3, 29, 133, 9, 20, 0, 42, 184, 0, 38, 154, 0, 7] := dq_sub (n := 0) (j := 16) dX4_isMoment_w0 (by decide) rfl
theorem dX4_isMoment_v2 : (cX4_isMoment.data.toList.drop 32).take 16 = [4, 167, 0, 4, 3, 182, 0, 68, 153, 0, 5, 3, 172, 42, 180, 0] := dq_sub (n := 0) (j := 32) dX4_isMoment_w0 (by decide) rfl
theorem dX4_isMoment_v3 : (cX4_isMoment.data.toList.drop 48).take 16 = [13, 27, 47, 42, 180, 0, 13, 28, 47, 184, 0, 88, 29, 154, 0, 7] := dq_sub (n := 0) (j := 48) dX4_isMoment_w0 (by decide) rfl
theorem dX4_isMoment_v4 : (cX4_isMoment.data.toList.drop 64).take 16 = [2, 167, 0, 13, 29, 4, 160, 0, 7, 4, 167, 0, 4, 3, 160, 0] := dq_sub (n := 64) (j := 0) dX4_isMoment_w1 (by decide) rfl
theorem dX4_isMoment_v5 : (cX4_isMoment.data.toList.drop 80).take 16 = [7, 4, 167, 0, 4, 3, 172] := dq_sub (n := 64) (j := 16) dX4_isMoment_w1 (by decide) rfl
theorem dX4_isMoment_0 : decode cX4_isMoment 0 = .ok (.aload_n 0, 1) := dk_42 (dq_lk dX4_isMoment_v0 (r := 0) (x := 42) rfl)
theorem dX4_isMoment_1 : decode cX4_isMoment 1 = .ok (.iload_n 1, 1) := dk_27 (dq_lk dX4_isMoment_v0 (r := 1) (x := 27) rfl)
theorem dX4_isMoment_2 : decode cX4_isMoment 2 = .ok (.invokestatic 61, 3) := dk_184 (dq_lk dX4_isMoment_v0 (r := 2) (x := 184) rfl) (dq_lk dX4_isMoment_v0 (r := 3) (x := 0) rfl) (dq_lk dX4_isMoment_v0 (r := 4) (x := 61) rfl)
theorem dX4_isMoment_5 : decode cX4_isMoment 5 = .ok (.ifCond .ne 10, 3) := dk_154 (dq_lk dX4_isMoment_v0 (r := 5) (x := 154) rfl) (dq_lk dX4_isMoment_v0 (r := 6) (x := 0) rfl) (dq_lk dX4_isMoment_v0 (r := 7) (x := 10) rfl) (by decide +kernel)
theorem dX4_isMoment_8 : decode cX4_isMoment 8 = .ok (.iload_n 2, 1) := dk_28 (dq_lk dX4_isMoment_v0 (r := 8) (x := 28) rfl)
theorem dX4_isMoment_9 : decode cX4_isMoment 9 = .ok (.invokestatic 61, 3) := dk_184 (dq_lk dX4_isMoment_v0 (r := 9) (x := 184) rfl) (dq_lk dX4_isMoment_v0 (r := 10) (x := 0) rfl) (dq_lk dX4_isMoment_v0 (r := 11) (x := 61) rfl)
theorem dX4_isMoment_12 : decode cX4_isMoment 12 = .ok (.ifCond .eq 7, 3) := dk_153 (dq_lk dX4_isMoment_v0 (r := 12) (x := 153) rfl) (dq_lk dX4_isMoment_v0 (r := 13) (x := 0) rfl) (dq_lk dX4_isMoment_v0 (r := 14) (x := 7) rfl) (by decide +kernel)
theorem dX4_isMoment_15 : decode cX4_isMoment 15 = .ok (.iconst 1, 1) := dk_4 (dq_lk dX4_isMoment_v0 (r := 15) (x := 4) rfl)
theorem dX4_isMoment_16 : decode cX4_isMoment 16 = .ok (.goto 4, 3) := dk_167 (dq_lk dX4_isMoment_v1 (r := 0) (x := 167) rfl) (dq_lk dX4_isMoment_v1 (r := 1) (x := 0) rfl) (dq_lk dX4_isMoment_v1 (r := 2) (x := 4) rfl) (by decide +kernel)
theorem dX4_isMoment_19 : decode cX4_isMoment 19 = .ok (.iconst 0, 1) := dk_3 (dq_lk dX4_isMoment_v1 (r := 3) (x := 3) rfl)
theorem dX4_isMoment_20 : decode cX4_isMoment 20 = .ok (.iload_n 3, 1) := dk_29 (dq_lk dX4_isMoment_v1 (r := 4) (x := 29) rfl)
theorem dX4_isMoment_21 : decode cX4_isMoment 21 = .ok (.i2l, 1) := dk_133 (dq_lk dX4_isMoment_v1 (r := 5) (x := 133) rfl)
theorem dX4_isMoment_22 : decode cX4_isMoment 22 = .ok (.lconst 0, 1) := dk_9 (dq_lk dX4_isMoment_v1 (r := 6) (x := 9) rfl)
theorem dX4_isMoment_23 : decode cX4_isMoment 23 = .ok (.ldc2_w 42, 3) := dk_20 (dq_lk dX4_isMoment_v1 (r := 7) (x := 20) rfl) (dq_lk dX4_isMoment_v1 (r := 8) (x := 0) rfl) (dq_lk dX4_isMoment_v1 (r := 9) (x := 42) rfl)
theorem dX4_isMoment_26 : decode cX4_isMoment 26 = .ok (.invokestatic 38, 3) := dk_184 (dq_lk dX4_isMoment_v1 (r := 10) (x := 184) rfl) (dq_lk dX4_isMoment_v1 (r := 11) (x := 0) rfl) (dq_lk dX4_isMoment_v1 (r := 12) (x := 38) rfl)
theorem dX4_isMoment_29 : decode cX4_isMoment 29 = .ok (.ifCond .ne 7, 3) := dk_154 (dq_lk dX4_isMoment_v1 (r := 13) (x := 154) rfl) (dq_lk dX4_isMoment_v1 (r := 14) (x := 0) rfl) (dq_lk dX4_isMoment_v1 (r := 15) (x := 7) rfl) (by decide +kernel)
theorem dX4_isMoment_32 : decode cX4_isMoment 32 = .ok (.iconst 1, 1) := dk_4 (dq_lk dX4_isMoment_v2 (r := 0) (x := 4) rfl)
theorem dX4_isMoment_33 : decode cX4_isMoment 33 = .ok (.goto 4, 3) := dk_167 (dq_lk dX4_isMoment_v2 (r := 1) (x := 167) rfl) (dq_lk dX4_isMoment_v2 (r := 2) (x := 0) rfl) (dq_lk dX4_isMoment_v2 (r := 3) (x := 4) rfl) (by decide +kernel)
theorem dX4_isMoment_36 : decode cX4_isMoment 36 = .ok (.iconst 0, 1) := dk_3 (dq_lk dX4_isMoment_v2 (r := 4) (x := 3) rfl)
theorem dX4_isMoment_37 : decode cX4_isMoment 37 = .ok (.invokevirtual 68, 3) := dk_182 (dq_lk dX4_isMoment_v2 (r := 5) (x := 182) rfl) (dq_lk dX4_isMoment_v2 (r := 6) (x := 0) rfl) (dq_lk dX4_isMoment_v2 (r := 7) (x := 68) rfl)
theorem dX4_isMoment_40 : decode cX4_isMoment 40 = .ok (.ifCond .eq 5, 3) := dk_153 (dq_lk dX4_isMoment_v2 (r := 8) (x := 153) rfl) (dq_lk dX4_isMoment_v2 (r := 9) (x := 0) rfl) (dq_lk dX4_isMoment_v2 (r := 10) (x := 5) rfl) (by decide +kernel)
theorem dX4_isMoment_43 : decode cX4_isMoment 43 = .ok (.iconst 0, 1) := dk_3 (dq_lk dX4_isMoment_v2 (r := 11) (x := 3) rfl)
theorem dX4_isMoment_44 : decode cX4_isMoment 44 = .ok (.ireturn, 1) := dk_172 (dq_lk dX4_isMoment_v2 (r := 12) (x := 172) rfl)
theorem dX4_isMoment_45 : decode cX4_isMoment 45 = .ok (.aload_n 0, 1) := dk_42 (dq_lk dX4_isMoment_v2 (r := 13) (x := 42) rfl)
theorem dX4_isMoment_46 : decode cX4_isMoment 46 = .ok (.getfield 13, 3) := dk_180 (dq_lk dX4_isMoment_v2 (r := 14) (x := 180) rfl) (dq_lk dX4_isMoment_v2 (r := 15) (x := 0) rfl) (dq_lk dX4_isMoment_v3 (r := 0) (x := 13) rfl)
theorem dX4_isMoment_49 : decode cX4_isMoment 49 = .ok (.iload_n 1, 1) := dk_27 (dq_lk dX4_isMoment_v3 (r := 1) (x := 27) rfl)
theorem dX4_isMoment_50 : decode cX4_isMoment 50 = .ok (.laload, 1) := dk_47 (dq_lk dX4_isMoment_v3 (r := 2) (x := 47) rfl)
theorem dX4_isMoment_51 : decode cX4_isMoment 51 = .ok (.aload_n 0, 1) := dk_42 (dq_lk dX4_isMoment_v3 (r := 3) (x := 42) rfl)
theorem dX4_isMoment_52 : decode cX4_isMoment 52 = .ok (.getfield 13, 3) := dk_180 (dq_lk dX4_isMoment_v3 (r := 4) (x := 180) rfl) (dq_lk dX4_isMoment_v3 (r := 5) (x := 0) rfl) (dq_lk dX4_isMoment_v3 (r := 6) (x := 13) rfl)
theorem dX4_isMoment_55 : decode cX4_isMoment 55 = .ok (.iload_n 2, 1) := dk_28 (dq_lk dX4_isMoment_v3 (r := 7) (x := 28) rfl)
theorem dX4_isMoment_56 : decode cX4_isMoment 56 = .ok (.laload, 1) := dk_47 (dq_lk dX4_isMoment_v3 (r := 8) (x := 47) rfl)
theorem dX4_isMoment_57 : decode cX4_isMoment 57 = .ok (.invokestatic 88, 3) := dk_184 (dq_lk dX4_isMoment_v3 (r := 9) (x := 184) rfl) (dq_lk dX4_isMoment_v3 (r := 10) (x := 0) rfl) (dq_lk dX4_isMoment_v3 (r := 11) (x := 88) rfl)
theorem dX4_isMoment_60 : decode cX4_isMoment 60 = .ok (.iload_n 3, 1) := dk_29 (dq_lk dX4_isMoment_v3 (r := 12) (x := 29) rfl)
theorem dX4_isMoment_61 : decode cX4_isMoment 61 = .ok (.ifCond .ne 7, 3) := dk_154 (dq_lk dX4_isMoment_v3 (r := 13) (x := 154) rfl) (dq_lk dX4_isMoment_v3 (r := 14) (x := 0) rfl) (dq_lk dX4_isMoment_v3 (r := 15) (x := 7) rfl) (by decide +kernel)
theorem dX4_isMoment_64 : decode cX4_isMoment 64 = .ok (.iconst (-1), 1) := dk_2 (dq_lk dX4_isMoment_v4 (r := 0) (x := 2) rfl)
theorem dX4_isMoment_65 : decode cX4_isMoment 65 = .ok (.goto 13, 3) := dk_167 (dq_lk dX4_isMoment_v4 (r := 1) (x := 167) rfl) (dq_lk dX4_isMoment_v4 (r := 2) (x := 0) rfl) (dq_lk dX4_isMoment_v4 (r := 3) (x := 13) rfl) (by decide +kernel)
theorem dX4_isMoment_68 : decode cX4_isMoment 68 = .ok (.iload_n 3, 1) := dk_29 (dq_lk dX4_isMoment_v4 (r := 4) (x := 29) rfl)
theorem dX4_isMoment_69 : decode cX4_isMoment 69 = .ok (.iconst 1, 1) := dk_4 (dq_lk dX4_isMoment_v4 (r := 5) (x := 4) rfl)
theorem dX4_isMoment_70 : decode cX4_isMoment 70 = .ok (.if_icmp .ne 7, 3) := dk_160 (dq_lk dX4_isMoment_v4 (r := 6) (x := 160) rfl) (dq_lk dX4_isMoment_v4 (r := 7) (x := 0) rfl) (dq_lk dX4_isMoment_v4 (r := 8) (x := 7) rfl) (by decide +kernel)
theorem dX4_isMoment_73 : decode cX4_isMoment 73 = .ok (.iconst 1, 1) := dk_4 (dq_lk dX4_isMoment_v4 (r := 9) (x := 4) rfl)
theorem dX4_isMoment_74 : decode cX4_isMoment 74 = .ok (.goto 4, 3) := dk_167 (dq_lk dX4_isMoment_v4 (r := 10) (x := 167) rfl) (dq_lk dX4_isMoment_v4 (r := 11) (x := 0) rfl) (dq_lk dX4_isMoment_v4 (r := 12) (x := 4) rfl) (by decide +kernel)
theorem dX4_isMoment_77 : decode cX4_isMoment 77 = .ok (.iconst 0, 1) := dk_3 (dq_lk dX4_isMoment_v4 (r := 13) (x := 3) rfl)
theorem dX4_isMoment_78 : decode cX4_isMoment 78 = .ok (.if_icmp .ne 7, 3) := dk_160 (dq_lk dX4_isMoment_v4 (r := 14) (x := 160) rfl) (dq_lk dX4_isMoment_v4 (r := 15) (x := 0) rfl) (dq_lk dX4_isMoment_v5 (r := 0) (x := 7) rfl) (by decide +kernel)
theorem dX4_isMoment_81 : decode cX4_isMoment 81 = .ok (.iconst 1, 1) := dk_4 (dq_lk dX4_isMoment_v5 (r := 1) (x := 4) rfl)
theorem dX4_isMoment_82 : decode cX4_isMoment 82 = .ok (.goto 4, 3) := dk_167 (dq_lk dX4_isMoment_v5 (r := 2) (x := 167) rfl) (dq_lk dX4_isMoment_v5 (r := 3) (x := 0) rfl) (dq_lk dX4_isMoment_v5 (r := 4) (x := 4) rfl) (by decide +kernel)
theorem dX4_isMoment_85 : decode cX4_isMoment 85 = .ok (.iconst 0, 1) := dk_3 (dq_lk dX4_isMoment_v5 (r := 5) (x := 3) rfl)
theorem dX4_isMoment_86 : decode cX4_isMoment 86 = .ok (.ireturn, 1) := dk_172 (dq_lk dX4_isMoment_v5 (r := 6) (x := 172) rfl)
theorem dX4_seconds_v0 : (cX4_seconds.data.toList.drop 0).take 16 = [42, 27, 184, 0, 61, 3, 182, 0, 68, 153, 0, 7, 3, 167, 0, 9] := by decide +kernel
theorem dX4_seconds_v1 : (cX4_seconds.data.toList.drop 16).take 16 = [42, 180, 0, 7, 27, 46, 172] := by decide +kernel
theorem dX4_seconds_0 : decode cX4_seconds 0 = .ok (.aload_n 0, 1) := dk_42 (dq_lk dX4_seconds_v0 (r := 0) (x := 42) rfl)
theorem dX4_seconds_1 : decode cX4_seconds 1 = .ok (.iload_n 1, 1) := dk_27 (dq_lk dX4_seconds_v0 (r := 1) (x := 27) rfl)
theorem dX4_seconds_2 : decode cX4_seconds 2 = .ok (.invokestatic 61, 3) := dk_184 (dq_lk dX4_seconds_v0 (r := 2) (x := 184) rfl) (dq_lk dX4_seconds_v0 (r := 3) (x := 0) rfl) (dq_lk dX4_seconds_v0 (r := 4) (x := 61) rfl)
theorem dX4_seconds_5 : decode cX4_seconds 5 = .ok (.iconst 0, 1) := dk_3 (dq_lk dX4_seconds_v0 (r := 5) (x := 3) rfl)
theorem dX4_seconds_6 : decode cX4_seconds 6 = .ok (.invokevirtual 68, 3) := dk_182 (dq_lk dX4_seconds_v0 (r := 6) (x := 182) rfl) (dq_lk dX4_seconds_v0 (r := 7) (x := 0) rfl) (dq_lk dX4_seconds_v0 (r := 8) (x := 68) rfl)
theorem dX4_seconds_9 : decode cX4_seconds 9 = .ok (.ifCond .eq 7, 3) := dk_153 (dq_lk dX4_seconds_v0 (r := 9) (x := 153) rfl) (dq_lk dX4_seconds_v0 (r := 10) (x := 0) rfl) (dq_lk dX4_seconds_v0 (r := 11) (x := 7) rfl) (by decide +kernel)
theorem dX4_seconds_12 : decode cX4_seconds 12 = .ok (.iconst 0, 1) := dk_3 (dq_lk dX4_seconds_v0 (r := 12) (x := 3) rfl)
theorem dX4_seconds_13 : decode cX4_seconds 13 = .ok (.goto 9, 3) := dk_167 (dq_lk dX4_seconds_v0 (r := 13) (x := 167) rfl) (dq_lk dX4_seconds_v0 (r := 14) (x := 0) rfl) (dq_lk dX4_seconds_v0 (r := 15) (x := 9) rfl) (by decide +kernel)
theorem dX4_seconds_16 : decode cX4_seconds 16 = .ok (.aload_n 0, 1) := dk_42 (dq_lk dX4_seconds_v1 (r := 0) (x := 42) rfl)
theorem dX4_seconds_17 : decode cX4_seconds 17 = .ok (.getfield 7, 3) := dk_180 (dq_lk dX4_seconds_v1 (r := 1) (x := 180) rfl) (dq_lk dX4_seconds_v1 (r := 2) (x := 0) rfl) (dq_lk dX4_seconds_v1 (r := 3) (x := 7) rfl)
theorem dX4_seconds_20 : decode cX4_seconds 20 = .ok (.iload_n 1, 1) := dk_27 (dq_lk dX4_seconds_v1 (r := 4) (x := 27) rfl)
theorem dX4_seconds_21 : decode cX4_seconds 21 = .ok (.iaload, 1) := dk_46 (dq_lk dX4_seconds_v1 (r := 5) (x := 46) rfl)
theorem dX4_seconds_22 : decode cX4_seconds 22 = .ok (.ireturn, 1) := dk_172 (dq_lk dX4_seconds_v1 (r := 6) (x := 172) rfl)
theorem dX4_orderOffset_v0 : (cX4_orderOffset.data.toList.drop 0).take 16 = [42, 27, 184, 0, 61, 154, 0, 10, 28, 184, 0, 61, 153, 0, 7, 4] := by decide +kernel
theorem dX4_orderOffset_v1 : (cX4_orderOffset.data.toList.drop 16).take 16 = [167, 0, 4, 3, 3, 182, 0, 68, 153, 0, 7, 3, 167, 0, 20, 42] := by decide +kernel
theorem dX4_orderOffset_v2 : (cX4_orderOffset.data.toList.drop 32).take 16 = [180, 0, 7, 28, 46, 133, 42, 180, 0, 7, 27, 46, 133, 184, 0, 88] := by decide +kernel
theorem dX4_orderOffset_v3 : (cX4_orderOffset.data.toList.drop 48).take 16 = [172] := by decide +kernel
theorem dX4_orderOffset_0 : decode cX4_orderOffset 0 = .ok (.aload_n 0, 1) := dk_42 (dq_lk dX4_orderOffset_v0 (r := 0) (x := 42) rfl)
theorem dX4_orderOffset_1 : decode cX4_orderOffset 1 = .ok (.iload_n 1, 1) := dk_27 (dq_lk dX4_orderOffset_v0 (r := 1) (x := 27) rfl)
theorem dX4_orderOffset_2 : decode cX4_orderOffset 2 = .ok (.invokestatic 61, 3) := dk_184 (dq_lk dX4_orderOffset_v0 (r := 2) (x := 184) rfl) (dq_lk dX4_orderOffset_v0 (r := 3) (x := 0) rfl) (dq_lk dX4_orderOffset_v0 (r := 4) (x := 61) rfl)
theorem dX4_orderOffset_5 : decode cX4_orderOffset 5 = .ok (.ifCond .ne 10, 3) := dk_154 (dq_lk dX4_orderOffset_v0 (r := 5) (x := 154) rfl) (dq_lk dX4_orderOffset_v0 (r := 6) (x := 0) rfl) (dq_lk dX4_orderOffset_v0 (r := 7) (x := 10) rfl) (by decide +kernel)
theorem dX4_orderOffset_8 : decode cX4_orderOffset 8 = .ok (.iload_n 2, 1) := dk_28 (dq_lk dX4_orderOffset_v0 (r := 8) (x := 28) rfl)
theorem dX4_orderOffset_9 : decode cX4_orderOffset 9 = .ok (.invokestatic 61, 3) := dk_184 (dq_lk dX4_orderOffset_v0 (r := 9) (x := 184) rfl) (dq_lk dX4_orderOffset_v0 (r := 10) (x := 0) rfl) (dq_lk dX4_orderOffset_v0 (r := 11) (x := 61) rfl)
theorem dX4_orderOffset_12 : decode cX4_orderOffset 12 = .ok (.ifCond .eq 7, 3) := dk_153 (dq_lk dX4_orderOffset_v0 (r := 12) (x := 153) rfl) (dq_lk dX4_orderOffset_v0 (r := 13) (x := 0) rfl) (dq_lk dX4_orderOffset_v0 (r := 14) (x := 7) rfl) (by decide +kernel)
theorem dX4_orderOffset_15 : decode cX4_orderOffset 15 = .ok (.iconst 1, 1) := dk_4 (dq_lk dX4_orderOffset_v0 (r := 15) (x := 4) rfl)
theorem dX4_orderOffset_16 : decode cX4_orderOffset 16 = .ok (.goto 4, 3) := dk_167 (dq_lk dX4_orderOffset_v1 (r := 0) (x := 167) rfl) (dq_lk dX4_orderOffset_v1 (r := 1) (x := 0) rfl) (dq_lk dX4_orderOffset_v1 (r := 2) (x := 4) rfl) (by decide +kernel)
theorem dX4_orderOffset_19 : decode cX4_orderOffset 19 = .ok (.iconst 0, 1) := dk_3 (dq_lk dX4_orderOffset_v1 (r := 3) (x := 3) rfl)
theorem dX4_orderOffset_20 : decode cX4_orderOffset 20 = .ok (.iconst 0, 1) := dk_3 (dq_lk dX4_orderOffset_v1 (r := 4) (x := 3) rfl)
theorem dX4_orderOffset_21 : decode cX4_orderOffset 21 = .ok (.invokevirtual 68, 3) := dk_182 (dq_lk dX4_orderOffset_v1 (r := 5) (x := 182) rfl) (dq_lk dX4_orderOffset_v1 (r := 6) (x := 0) rfl) (dq_lk dX4_orderOffset_v1 (r := 7) (x := 68) rfl)
theorem dX4_orderOffset_24 : decode cX4_orderOffset 24 = .ok (.ifCond .eq 7, 3) := dk_153 (dq_lk dX4_orderOffset_v1 (r := 8) (x := 153) rfl) (dq_lk dX4_orderOffset_v1 (r := 9) (x := 0) rfl) (dq_lk dX4_orderOffset_v1 (r := 10) (x := 7) rfl) (by decide +kernel)
theorem dX4_orderOffset_27 : decode cX4_orderOffset 27 = .ok (.iconst 0, 1) := dk_3 (dq_lk dX4_orderOffset_v1 (r := 11) (x := 3) rfl)
theorem dX4_orderOffset_28 : decode cX4_orderOffset 28 = .ok (.goto 20, 3) := dk_167 (dq_lk dX4_orderOffset_v1 (r := 12) (x := 167) rfl) (dq_lk dX4_orderOffset_v1 (r := 13) (x := 0) rfl) (dq_lk dX4_orderOffset_v1 (r := 14) (x := 20) rfl) (by decide +kernel)
theorem dX4_orderOffset_31 : decode cX4_orderOffset 31 = .ok (.aload_n 0, 1) := dk_42 (dq_lk dX4_orderOffset_v1 (r := 15) (x := 42) rfl)
theorem dX4_orderOffset_32 : decode cX4_orderOffset 32 = .ok (.getfield 7, 3) := dk_180 (dq_lk dX4_orderOffset_v2 (r := 0) (x := 180) rfl) (dq_lk dX4_orderOffset_v2 (r := 1) (x := 0) rfl) (dq_lk dX4_orderOffset_v2 (r := 2) (x := 7) rfl)
theorem dX4_orderOffset_35 : decode cX4_orderOffset 35 = .ok (.iload_n 2, 1) := dk_28 (dq_lk dX4_orderOffset_v2 (r := 3) (x := 28) rfl)
theorem dX4_orderOffset_36 : decode cX4_orderOffset 36 = .ok (.iaload, 1) := dk_46 (dq_lk dX4_orderOffset_v2 (r := 4) (x := 46) rfl)
theorem dX4_orderOffset_37 : decode cX4_orderOffset 37 = .ok (.i2l, 1) := dk_133 (dq_lk dX4_orderOffset_v2 (r := 5) (x := 133) rfl)
theorem dX4_orderOffset_38 : decode cX4_orderOffset 38 = .ok (.aload_n 0, 1) := dk_42 (dq_lk dX4_orderOffset_v2 (r := 6) (x := 42) rfl)
theorem dX4_orderOffset_39 : decode cX4_orderOffset 39 = .ok (.getfield 7, 3) := dk_180 (dq_lk dX4_orderOffset_v2 (r := 7) (x := 180) rfl) (dq_lk dX4_orderOffset_v2 (r := 8) (x := 0) rfl) (dq_lk dX4_orderOffset_v2 (r := 9) (x := 7) rfl)
theorem dX4_orderOffset_42 : decode cX4_orderOffset 42 = .ok (.iload_n 1, 1) := dk_27 (dq_lk dX4_orderOffset_v2 (r := 10) (x := 27) rfl)
theorem dX4_orderOffset_43 : decode cX4_orderOffset 43 = .ok (.iaload, 1) := dk_46 (dq_lk dX4_orderOffset_v2 (r := 11) (x := 46) rfl)
theorem dX4_orderOffset_44 : decode cX4_orderOffset 44 = .ok (.i2l, 1) := dk_133 (dq_lk dX4_orderOffset_v2 (r := 12) (x := 133) rfl)
theorem dX4_orderOffset_45 : decode cX4_orderOffset 45 = .ok (.invokestatic 88, 3) := dk_184 (dq_lk dX4_orderOffset_v2 (r := 13) (x := 184) rfl) (dq_lk dX4_orderOffset_v2 (r := 14) (x := 0) rfl) (dq_lk dX4_orderOffset_v2 (r := 15) (x := 88) rfl)
theorem dX4_orderOffset_48 : decode cX4_orderOffset 48 = .ok (.ireturn, 1) := dk_172 (dq_lk dX4_orderOffset_v3 (r := 0) (x := 172) rfl)
theorem dX4_put_v0 : (cX4_put.data.toList.drop 0).take 16 = [42, 180, 0, 17, 27, 28, 79, 42, 180, 0, 20, 27, 29, 79, 42, 180] := by decide +kernel
theorem dX4_put_v1 : (cX4_put.data.toList.drop 16).take 16 = [0, 23, 27, 21, 4, 79, 42, 180, 0, 26, 27, 21, 5, 79, 28, 172] := by decide +kernel
theorem dX4_put_0 : decode cX4_put 0 = .ok (.aload_n 0, 1) := dk_42 (dq_lk dX4_put_v0 (r := 0) (x := 42) rfl)
theorem dX4_put_1 : decode cX4_put 1 = .ok (.getfield 17, 3) := dk_180 (dq_lk dX4_put_v0 (r := 1) (x := 180) rfl) (dq_lk dX4_put_v0 (r := 2) (x := 0) rfl) (dq_lk dX4_put_v0 (r := 3) (x := 17) rfl)
theorem dX4_put_4 : decode cX4_put 4 = .ok (.iload_n 1, 1) := dk_27 (dq_lk dX4_put_v0 (r := 4) (x := 27) rfl)
theorem dX4_put_5 : decode cX4_put 5 = .ok (.iload_n 2, 1) := dk_28 (dq_lk dX4_put_v0 (r := 5) (x := 28) rfl)
theorem dX4_put_6 : decode cX4_put 6 = .ok (.iastore, 1) := dk_79 (dq_lk dX4_put_v0 (r := 6) (x := 79) rfl)
theorem dX4_put_7 : decode cX4_put 7 = .ok (.aload_n 0, 1) := dk_42 (dq_lk dX4_put_v0 (r := 7) (x := 42) rfl)
theorem dX4_put_8 : decode cX4_put 8 = .ok (.getfield 20, 3) := dk_180 (dq_lk dX4_put_v0 (r := 8) (x := 180) rfl) (dq_lk dX4_put_v0 (r := 9) (x := 0) rfl) (dq_lk dX4_put_v0 (r := 10) (x := 20) rfl)
theorem dX4_put_11 : decode cX4_put 11 = .ok (.iload_n 1, 1) := dk_27 (dq_lk dX4_put_v0 (r := 11) (x := 27) rfl)
theorem dX4_put_12 : decode cX4_put 12 = .ok (.iload_n 3, 1) := dk_29 (dq_lk dX4_put_v0 (r := 12) (x := 29) rfl)
theorem dX4_put_13 : decode cX4_put 13 = .ok (.iastore, 1) := dk_79 (dq_lk dX4_put_v0 (r := 13) (x := 79) rfl)
theorem dX4_put_14 : decode cX4_put 14 = .ok (.aload_n 0, 1) := dk_42 (dq_lk dX4_put_v0 (r := 14) (x := 42) rfl)
theorem dX4_put_15 : decode cX4_put 15 = .ok (.getfield 23, 3) := dk_180 (dq_lk dX4_put_v0 (r := 15) (x := 180) rfl) (dq_lk dX4_put_v1 (r := 0) (x := 0) rfl) (dq_lk dX4_put_v1 (r := 1) (x := 23) rfl)
theorem dX4_put_18 : decode cX4_put 18 = .ok (.iload_n 1, 1) := dk_27 (dq_lk dX4_put_v1 (r := 2) (x := 27) rfl)
theorem dX4_put_19 : decode cX4_put 19 = .ok (.iload 4, 2) := dk_21 (dq_lk dX4_put_v1 (r := 3) (x := 21) rfl) (dq_lk dX4_put_v1 (r := 4) (x := 4) rfl)
theorem dX4_put_21 : decode cX4_put 21 = .ok (.iastore, 1) := dk_79 (dq_lk dX4_put_v1 (r := 5) (x := 79) rfl)
theorem dX4_put_22 : decode cX4_put 22 = .ok (.aload_n 0, 1) := dk_42 (dq_lk dX4_put_v1 (r := 6) (x := 42) rfl)
theorem dX4_put_23 : decode cX4_put 23 = .ok (.getfield 26, 3) := dk_180 (dq_lk dX4_put_v1 (r := 7) (x := 180) rfl) (dq_lk dX4_put_v1 (r := 8) (x := 0) rfl) (dq_lk dX4_put_v1 (r := 9) (x := 26) rfl)
theorem dX4_put_26 : decode cX4_put 26 = .ok (.iload_n 1, 1) := dk_27 (dq_lk dX4_put_v1 (r := 10) (x := 27) rfl)
theorem dX4_put_27 : decode cX4_put 27 = .ok (.iload 5, 2) := dk_21 (dq_lk dX4_put_v1 (r := 11) (x := 21) rfl) (dq_lk dX4_put_v1 (r := 12) (x := 5) rfl)
theorem dX4_put_29 : decode cX4_put 29 = .ok (.iastore, 1) := dk_79 (dq_lk dX4_put_v1 (r := 13) (x := 79) rfl)
theorem dX4_put_30 : decode cX4_put 30 = .ok (.iload_n 2, 1) := dk_28 (dq_lk dX4_put_v1 (r := 14) (x := 28) rfl)
theorem dX4_put_31 : decode cX4_put 31 = .ok (.ireturn, 1) := dk_172 (dq_lk dX4_put_v1 (r := 15) (x := 172) rfl)
theorem dX4_put__v0 : (cX4_put_.data.toList.drop 0).take 16 = [32, 22, 4, 20, 0, 113, 184, 0, 92, 97, 55, 8, 22, 8, 184, 0] := by decide +kernel
theorem dX4_put__v1 : (cX4_put_.data.toList.drop 16).take 16 = [135, 153, 0, 26, 42, 27, 22, 8, 136, 22, 4, 20, 0, 113, 184, 0] := by decide +kernel
theorem dX4_put__v2 : (cX4_put_.data.toList.drop 32).take 16 = [102, 21, 6, 21, 7, 182, 0, 139, 167, 0, 7, 42, 182, 0, 80, 172] := by decide +kernel
theorem dX4_put__0 : decode cX4_put_ 0 = .ok (.lload_n 2, 1) := dk_32 (dq_lk dX4_put__v0 (r := 0) (x := 32) rfl)
theorem dX4_put__1 : decode cX4_put_ 1 = .ok (.lload 4, 2) := dk_22 (dq_lk dX4_put__v0 (r := 1) (x := 22) rfl) (dq_lk dX4_put__v0 (r := 2) (x := 4) rfl)
theorem dX4_put__3 : decode cX4_put_ 3 = .ok (.ldc2_w 113, 3) := dk_20 (dq_lk dX4_put__v0 (r := 3) (x := 20) rfl) (dq_lk dX4_put__v0 (r := 4) (x := 0) rfl) (dq_lk dX4_put__v0 (r := 5) (x := 113) rfl)
theorem dX4_put__6 : decode cX4_put_ 6 = .ok (.invokestatic 92, 3) := dk_184 (dq_lk dX4_put__v0 (r := 6) (x := 184) rfl) (dq_lk dX4_put__v0 (r := 7) (x := 0) rfl) (dq_lk dX4_put__v0 (r := 8) (x := 92) rfl)
theorem dX4_put__9 : decode cX4_put_ 9 = .ok (.ladd, 1) := dk_97 (dq_lk dX4_put__v0 (r := 9) (x := 97) rfl)
theorem dX4_put__10 : decode cX4_put_ 10 = .ok (.lstore 8, 2) := dk_55 (dq_lk dX4_put__v0 (r := 10) (x := 55) rfl) (dq_lk dX4_put__v0 (r := 11) (x := 8) rfl)
theorem dX4_put__12 : decode cX4_put_ 12 = .ok (.lload 8, 2) := dk_22 (dq_lk dX4_put__v0 (r := 12) (x := 22) rfl) (dq_lk dX4_put__v0 (r := 13) (x := 8) rfl)
theorem dX4_put__14 : decode cX4_put_ 14 = .ok (.invokestatic 135, 3) := dk_184 (dq_lk dX4_put__v0 (r := 14) (x := 184) rfl) (dq_lk dX4_put__v0 (r := 15) (x := 0) rfl) (dq_lk dX4_put__v1 (r := 0) (x := 135) rfl)
theorem dX4_put__17 : decode cX4_put_ 17 = .ok (.ifCond .eq 26, 3) := dk_153 (dq_lk dX4_put__v1 (r := 1) (x := 153) rfl) (dq_lk dX4_put__v1 (r := 2) (x := 0) rfl) (dq_lk dX4_put__v1 (r := 3) (x := 26) rfl) (by decide +kernel)
theorem dX4_put__20 : decode cX4_put_ 20 = .ok (.aload_n 0, 1) := dk_42 (dq_lk dX4_put__v1 (r := 4) (x := 42) rfl)
theorem dX4_put__21 : decode cX4_put_ 21 = .ok (.iload_n 1, 1) := dk_27 (dq_lk dX4_put__v1 (r := 5) (x := 27) rfl)
theorem dX4_put__22 : decode cX4_put_ 22 = .ok (.lload 8, 2) := dk_22 (dq_lk dX4_put__v1 (r := 6) (x := 22) rfl) (dq_lk dX4_put__v1 (r := 7) (x := 8) rfl)
theorem dX4_put__24 : decode cX4_put_ 24 = .ok (.l2i, 1) := dk_136 (dq_lk dX4_put__v1 (r := 8) (x := 136) rfl)
theorem dX4_put__25 : decode cX4_put_ 25 = .ok (.lload 4, 2) := dk_22 (dq_lk dX4_put__v1 (r := 9) (x := 22) rfl) (dq_lk dX4_put__v1 (r := 10) (x := 4) rfl)
theorem dX4_put__27 : decode cX4_put_ 27 = .ok (.ldc2_w 113, 3) := dk_20 (dq_lk dX4_put__v1 (r := 11) (x := 20) rfl) (dq_lk dX4_put__v1 (r := 12) (x := 0) rfl) (dq_lk dX4_put__v1 (r := 13) (x := 113) rfl)
theorem dX4_put__30 : decode cX4_put_ 30 = .ok (.invokestatic 102, 3) := dk_184 (dq_lk dX4_put__v1 (r := 14) (x := 184) rfl) (dq_lk dX4_put__v1 (r := 15) (x := 0) rfl) (dq_lk dX4_put__v2 (r := 0) (x := 102) rfl)
theorem dX4_put__33 : decode cX4_put_ 33 = .ok (.iload 6, 2) := dk_21 (dq_lk dX4_put__v2 (r := 1) (x := 21) rfl) (dq_lk dX4_put__v2 (r := 2) (x := 6) rfl)
theorem dX4_put__35 : decode cX4_put_ 35 = .ok (.iload 7, 2) := dk_21 (dq_lk dX4_put__v2 (r := 3) (x := 21) rfl) (dq_lk dX4_put__v2 (r := 4) (x := 7) rfl)
theorem dX4_put__37 : decode cX4_put_ 37 = .ok (.invokevirtual 139, 3) := dk_182 (dq_lk dX4_put__v2 (r := 5) (x := 182) rfl) (dq_lk dX4_put__v2 (r := 6) (x := 0) rfl) (dq_lk dX4_put__v2 (r := 7) (x := 139) rfl)
theorem dX4_put__40 : decode cX4_put_ 40 = .ok (.goto 7, 3) := dk_167 (dq_lk dX4_put__v2 (r := 8) (x := 167) rfl) (dq_lk dX4_put__v2 (r := 9) (x := 0) rfl) (dq_lk dX4_put__v2 (r := 10) (x := 7) rfl) (by decide +kernel)
theorem dX4_put__43 : decode cX4_put_ 43 = .ok (.aload_n 0, 1) := dk_42 (dq_lk dX4_put__v2 (r := 11) (x := 42) rfl)
theorem dX4_put__44 : decode cX4_put_ 44 = .ok (.invokevirtual 80, 3) := dk_182 (dq_lk dX4_put__v2 (r := 12) (x := 182) rfl) (dq_lk dX4_put__v2 (r := 13) (x := 0) rfl) (dq_lk dX4_put__v2 (r := 14) (x := 80) rfl)
theorem dX4_put__47 : decode cX4_put_ 47 = .ok (.ireturn, 1) := dk_172 (dq_lk dX4_put__v2 (r := 15) (x := 172) rfl)
end
-- 25 ref25
section
/-! The reference, its contracts (rows by a program of this repository). -/
theorem dX4_putDay_v0 : (cX4_putDay.data.toList.drop 0).take 16 = [42, 180, 0, 17, 27, 28, 29, 21, 4, 28, 29, 184, 0, 55, 184, 0] := by decide +kernel
theorem dX4_putDay_v1 : (cX4_putDay.data.toList.drop 16).take 16 = [178, 184, 0, 163, 79, 42, 180, 0, 17, 27, 46, 172] := by decide +kernel
theorem dX4_putDay_0 : decode cX4_putDay 0 = .ok (.aload_n 0, 1) := dk_42 (dq_lk dX4_putDay_v0 (r := 0) (x := 42) rfl)
theorem dX4_putDay_1 : decode cX4_putDay 1 = .ok (.getfield 17, 3) := dk_180 (dq_lk dX4_putDay_v0 (r := 1) (x := 180) rfl) (dq_lk dX4_putDay_v0 (r := 2) (x := 0) rfl) (dq_lk dX4_putDay_v0 (r := 3) (x := 17) rfl)
theorem dX4_putDay_4 : decode cX4_putDay 4 = .ok (.iload_n 1, 1) := dk_27 (dq_lk dX4_putDay_v0 (r := 4) (x := 27) rfl)
theorem dX4_putDay_5 : decode cX4_putDay 5 = .ok (.iload_n 2, 1) := dk_28 (dq_lk dX4_putDay_v0 (r := 5) (x := 28) rfl)
theorem dX4_putDay_6 : decode cX4_putDay 6 = .ok (.iload_n 3, 1) := dk_29 (dq_lk dX4_putDay_v0 (r := 6) (x := 29) rfl)
theorem dX4_putDay_7 : decode cX4_putDay 7 = .ok (.iload 4, 2) := dk_21 (dq_lk dX4_putDay_v0 (r := 7) (x := 21) rfl) (dq_lk dX4_putDay_v0 (r := 8) (x := 4) rfl)
theorem dX4_putDay_9 : decode cX4_putDay 9 = .ok (.iload_n 2, 1) := dk_28 (dq_lk dX4_putDay_v0 (r := 9) (x := 28) rfl)
theorem dX4_putDay_10 : decode cX4_putDay 10 = .ok (.iload_n 3, 1) := dk_29 (dq_lk dX4_putDay_v0 (r := 10) (x := 29) rfl)
theorem dX4_putDay_11 : decode cX4_putDay 11 = .ok (.invokestatic 55, 3) := dk_184 (dq_lk dX4_putDay_v0 (r := 11) (x := 184) rfl) (dq_lk dX4_putDay_v0 (r := 12) (x := 0) rfl) (dq_lk dX4_putDay_v0 (r := 13) (x := 55) rfl)
theorem dX4_putDay_14 : decode cX4_putDay 14 = .ok (.invokestatic 178, 3) := dk_184 (dq_lk dX4_putDay_v0 (r := 14) (x := 184) rfl) (dq_lk dX4_putDay_v0 (r := 15) (x := 0) rfl) (dq_lk dX4_putDay_v1 (r := 0) (x := 178) rfl)
theorem dX4_putDay_17 : decode cX4_putDay 17 = .ok (.invokestatic 163, 3) := dk_184 (dq_lk dX4_putDay_v1 (r := 1) (x := 184) rfl) (dq_lk dX4_putDay_v1 (r := 2) (x := 0) rfl) (dq_lk dX4_putDay_v1 (r := 3) (x := 163) rfl)
theorem dX4_putDay_20 : decode cX4_putDay 20 = .ok (.iastore, 1) := dk_79 (dq_lk dX4_putDay_v1 (r := 4) (x := 79) rfl)
theorem dX4_putDay_21 : decode cX4_putDay 21 = .ok (.aload_n 0, 1) := dk_42 (dq_lk dX4_putDay_v1 (r := 5) (x := 42) rfl)
theorem dX4_putDay_22 : decode cX4_putDay 22 = .ok (.getfield 17, 3) := dk_180 (dq_lk dX4_putDay_v1 (r := 6) (x := 180) rfl) (dq_lk dX4_putDay_v1 (r := 7) (x := 0) rfl) (dq_lk dX4_putDay_v1 (r := 8) (x := 17) rfl)
theorem dX4_putDay_25 : decode cX4_putDay 25 = .ok (.iload_n 1, 1) := dk_27 (dq_lk dX4_putDay_v1 (r := 9) (x := 27) rfl)
theorem dX4_putDay_26 : decode cX4_putDay 26 = .ok (.iaload, 1) := dk_46 (dq_lk dX4_putDay_v1 (r := 10) (x := 46) rfl)
theorem dX4_putDay_27 : decode cX4_putDay 27 = .ok (.ireturn, 1) := dk_172 (dq_lk dX4_putDay_v1 (r := 11) (x := 172) rfl)
theorem dX4_moveMonths_w0 : (cX4_moveMonths.data.toList.drop 0).take 64 = [42, 180, 0, 17, 27, 46, 184, 0, 170, 58, 4, 20, 0, 151, 25, 4, 3, 46, 133, 105, 25, 4, 4, 46, 133, 97, 10, 101, 32, 97, 55, 5, 22, 5, 20, 0, 151, 184, 0, 92, 55, 7, 22, 7, 20, 0, 147, 20, 0, 149, 184, 0, 38, 154, 0, 8, 42, 182, 0, 80, 172, 42, 27, 22] := by decide +kernel
theorem dX4_moveMonths_w1 : (cX4_moveMonths.data.toList.drop 64).take 64 = [7, 136, 22, 5, 20, 0, 151, 184, 0, 102, 4, 96, 25, 4, 5, 46, 182, 0, 174, 172] := by decide +kernel
theorem dX4_moveMonths_v0 : (cX4_moveMonths.data.toList.drop 0).take 16 = [42, 180, 0, 17, 27, 46, 184, 0, 170, 58, 4, 20, 0, 151, 25, 4] := dq_sub (n := 0) (j := 0) dX4_moveMonths_w0 (by decide) rfl
theorem dX4_moveMonths_v1 : (cX4_moveMonths.data.toList.drop 16).take 16 = [3, 46, 133, 105, 25, 4, 4, 46, 133, 97, 10, 101, 32, 97, 55, 5] := dq_sub (n := 0) (j := 16) dX4_moveMonths_w0 (by decide) rfl
theorem dX4_moveMonths_v2 : (cX4_moveMonths.data.toList.drop 32).take 16 = [22, 5, 20, 0, 151, 184, 0, 92, 55, 7, 22, 7, 20, 0, 147, 20] := dq_sub (n := 0) (j := 32) dX4_moveMonths_w0 (by decide) rfl
theorem dX4_moveMonths_v3 : (cX4_moveMonths.data.toList.drop 48).take 16 = [0, 149, 184, 0, 38, 154, 0, 8, 42, 182, 0, 80, 172, 42, 27, 22] := dq_sub (n := 0) (j := 48) dX4_moveMonths_w0 (by decide) rfl
theorem dX4_moveMonths_v4 : (cX4_moveMonths.data.toList.drop 64).take 16 = [7, 136, 22, 5, 20, 0, 151, 184, 0, 102, 4, 96, 25, 4, 5, 46] := dq_sub (n := 64) (j := 0) dX4_moveMonths_w1 (by decide) rfl
theorem dX4_moveMonths_v5 : (cX4_moveMonths.data.toList.drop 80).take 16 = [182, 0, 174, 172] := dq_sub (n := 64) (j := 16) dX4_moveMonths_w1 (by decide) rfl
theorem dX4_moveMonths_0 : decode cX4_moveMonths 0 = .ok (.aload_n 0, 1) := dk_42 (dq_lk dX4_moveMonths_v0 (r := 0) (x := 42) rfl)
theorem dX4_moveMonths_1 : decode cX4_moveMonths 1 = .ok (.getfield 17, 3) := dk_180 (dq_lk dX4_moveMonths_v0 (r := 1) (x := 180) rfl) (dq_lk dX4_moveMonths_v0 (r := 2) (x := 0) rfl) (dq_lk dX4_moveMonths_v0 (r := 3) (x := 17) rfl)
theorem dX4_moveMonths_4 : decode cX4_moveMonths 4 = .ok (.iload_n 1, 1) := dk_27 (dq_lk dX4_moveMonths_v0 (r := 4) (x := 27) rfl)
theorem dX4_moveMonths_5 : decode cX4_moveMonths 5 = .ok (.iaload, 1) := dk_46 (dq_lk dX4_moveMonths_v0 (r := 5) (x := 46) rfl)
theorem dX4_moveMonths_6 : decode cX4_moveMonths 6 = .ok (.invokestatic 170, 3) := dk_184 (dq_lk dX4_moveMonths_v0 (r := 6) (x := 184) rfl) (dq_lk dX4_moveMonths_v0 (r := 7) (x := 0) rfl) (dq_lk dX4_moveMonths_v0 (r := 8) (x := 170) rfl)
theorem dX4_moveMonths_9 : decode cX4_moveMonths 9 = .ok (.astore 4, 2) := dk_58 (dq_lk dX4_moveMonths_v0 (r := 9) (x := 58) rfl) (dq_lk dX4_moveMonths_v0 (r := 10) (x := 4) rfl)
theorem dX4_moveMonths_11 : decode cX4_moveMonths 11 = .ok (.ldc2_w 151, 3) := dk_20 (dq_lk dX4_moveMonths_v0 (r := 11) (x := 20) rfl) (dq_lk dX4_moveMonths_v0 (r := 12) (x := 0) rfl) (dq_lk dX4_moveMonths_v0 (r := 13) (x := 151) rfl)
theorem dX4_moveMonths_14 : decode cX4_moveMonths 14 = .ok (.aload 4, 2) := dk_25 (dq_lk dX4_moveMonths_v0 (r := 14) (x := 25) rfl) (dq_lk dX4_moveMonths_v0 (r := 15) (x := 4) rfl)
theorem dX4_moveMonths_16 : decode cX4_moveMonths 16 = .ok (.iconst 0, 1) := dk_3 (dq_lk dX4_moveMonths_v1 (r := 0) (x := 3) rfl)
theorem dX4_moveMonths_17 : decode cX4_moveMonths 17 = .ok (.iaload, 1) := dk_46 (dq_lk dX4_moveMonths_v1 (r := 1) (x := 46) rfl)
theorem dX4_moveMonths_18 : decode cX4_moveMonths 18 = .ok (.i2l, 1) := dk_133 (dq_lk dX4_moveMonths_v1 (r := 2) (x := 133) rfl)
theorem dX4_moveMonths_19 : decode cX4_moveMonths 19 = .ok (.lmul, 1) := dk_105 (dq_lk dX4_moveMonths_v1 (r := 3) (x := 105) rfl)
theorem dX4_moveMonths_20 : decode cX4_moveMonths 20 = .ok (.aload 4, 2) := dk_25 (dq_lk dX4_moveMonths_v1 (r := 4) (x := 25) rfl) (dq_lk dX4_moveMonths_v1 (r := 5) (x := 4) rfl)
theorem dX4_moveMonths_22 : decode cX4_moveMonths 22 = .ok (.iconst 1, 1) := dk_4 (dq_lk dX4_moveMonths_v1 (r := 6) (x := 4) rfl)
theorem dX4_moveMonths_23 : decode cX4_moveMonths 23 = .ok (.iaload, 1) := dk_46 (dq_lk dX4_moveMonths_v1 (r := 7) (x := 46) rfl)
theorem dX4_moveMonths_24 : decode cX4_moveMonths 24 = .ok (.i2l, 1) := dk_133 (dq_lk dX4_moveMonths_v1 (r := 8) (x := 133) rfl)
theorem dX4_moveMonths_25 : decode cX4_moveMonths 25 = .ok (.ladd, 1) := dk_97 (dq_lk dX4_moveMonths_v1 (r := 9) (x := 97) rfl)
theorem dX4_moveMonths_26 : decode cX4_moveMonths 26 = .ok (.lconst 1, 1) := dk_10 (dq_lk dX4_moveMonths_v1 (r := 10) (x := 10) rfl)
theorem dX4_moveMonths_27 : decode cX4_moveMonths 27 = .ok (.lsub, 1) := dk_101 (dq_lk dX4_moveMonths_v1 (r := 11) (x := 101) rfl)
theorem dX4_moveMonths_28 : decode cX4_moveMonths 28 = .ok (.lload_n 2, 1) := dk_32 (dq_lk dX4_moveMonths_v1 (r := 12) (x := 32) rfl)
theorem dX4_moveMonths_29 : decode cX4_moveMonths 29 = .ok (.ladd, 1) := dk_97 (dq_lk dX4_moveMonths_v1 (r := 13) (x := 97) rfl)
theorem dX4_moveMonths_30 : decode cX4_moveMonths 30 = .ok (.lstore 5, 2) := dk_55 (dq_lk dX4_moveMonths_v1 (r := 14) (x := 55) rfl) (dq_lk dX4_moveMonths_v1 (r := 15) (x := 5) rfl)
theorem dX4_moveMonths_32 : decode cX4_moveMonths 32 = .ok (.lload 5, 2) := dk_22 (dq_lk dX4_moveMonths_v2 (r := 0) (x := 22) rfl) (dq_lk dX4_moveMonths_v2 (r := 1) (x := 5) rfl)
theorem dX4_moveMonths_34 : decode cX4_moveMonths 34 = .ok (.ldc2_w 151, 3) := dk_20 (dq_lk dX4_moveMonths_v2 (r := 2) (x := 20) rfl) (dq_lk dX4_moveMonths_v2 (r := 3) (x := 0) rfl) (dq_lk dX4_moveMonths_v2 (r := 4) (x := 151) rfl)
theorem dX4_moveMonths_37 : decode cX4_moveMonths 37 = .ok (.invokestatic 92, 3) := dk_184 (dq_lk dX4_moveMonths_v2 (r := 5) (x := 184) rfl) (dq_lk dX4_moveMonths_v2 (r := 6) (x := 0) rfl) (dq_lk dX4_moveMonths_v2 (r := 7) (x := 92) rfl)
theorem dX4_moveMonths_40 : decode cX4_moveMonths 40 = .ok (.lstore 7, 2) := dk_55 (dq_lk dX4_moveMonths_v2 (r := 8) (x := 55) rfl) (dq_lk dX4_moveMonths_v2 (r := 9) (x := 7) rfl)
theorem dX4_moveMonths_42 : decode cX4_moveMonths 42 = .ok (.lload 7, 2) := dk_22 (dq_lk dX4_moveMonths_v2 (r := 10) (x := 22) rfl) (dq_lk dX4_moveMonths_v2 (r := 11) (x := 7) rfl)
theorem dX4_moveMonths_44 : decode cX4_moveMonths 44 = .ok (.ldc2_w 147, 3) := dk_20 (dq_lk dX4_moveMonths_v2 (r := 12) (x := 20) rfl) (dq_lk dX4_moveMonths_v2 (r := 13) (x := 0) rfl) (dq_lk dX4_moveMonths_v2 (r := 14) (x := 147) rfl)
theorem dX4_moveMonths_47 : decode cX4_moveMonths 47 = .ok (.ldc2_w 149, 3) := dk_20 (dq_lk dX4_moveMonths_v2 (r := 15) (x := 20) rfl) (dq_lk dX4_moveMonths_v3 (r := 0) (x := 0) rfl) (dq_lk dX4_moveMonths_v3 (r := 1) (x := 149) rfl)
theorem dX4_moveMonths_50 : decode cX4_moveMonths 50 = .ok (.invokestatic 38, 3) := dk_184 (dq_lk dX4_moveMonths_v3 (r := 2) (x := 184) rfl) (dq_lk dX4_moveMonths_v3 (r := 3) (x := 0) rfl) (dq_lk dX4_moveMonths_v3 (r := 4) (x := 38) rfl)
theorem dX4_moveMonths_53 : decode cX4_moveMonths 53 = .ok (.ifCond .ne 8, 3) := dk_154 (dq_lk dX4_moveMonths_v3 (r := 5) (x := 154) rfl) (dq_lk dX4_moveMonths_v3 (r := 6) (x := 0) rfl) (dq_lk dX4_moveMonths_v3 (r := 7) (x := 8) rfl) (by decide +kernel)
theorem dX4_moveMonths_56 : decode cX4_moveMonths 56 = .ok (.aload_n 0, 1) := dk_42 (dq_lk dX4_moveMonths_v3 (r := 8) (x := 42) rfl)
theorem dX4_moveMonths_57 : decode cX4_moveMonths 57 = .ok (.invokevirtual 80, 3) := dk_182 (dq_lk dX4_moveMonths_v3 (r := 9) (x := 182) rfl) (dq_lk dX4_moveMonths_v3 (r := 10) (x := 0) rfl) (dq_lk dX4_moveMonths_v3 (r := 11) (x := 80) rfl)
theorem dX4_moveMonths_60 : decode cX4_moveMonths 60 = .ok (.ireturn, 1) := dk_172 (dq_lk dX4_moveMonths_v3 (r := 12) (x := 172) rfl)
theorem dX4_moveMonths_61 : decode cX4_moveMonths 61 = .ok (.aload_n 0, 1) := dk_42 (dq_lk dX4_moveMonths_v3 (r := 13) (x := 42) rfl)
theorem dX4_moveMonths_62 : decode cX4_moveMonths 62 = .ok (.iload_n 1, 1) := dk_27 (dq_lk dX4_moveMonths_v3 (r := 14) (x := 27) rfl)
theorem dX4_moveMonths_63 : decode cX4_moveMonths 63 = .ok (.lload 7, 2) := dk_22 (dq_lk dX4_moveMonths_v3 (r := 15) (x := 22) rfl) (dq_lk dX4_moveMonths_v4 (r := 0) (x := 7) rfl)
theorem dX4_moveMonths_65 : decode cX4_moveMonths 65 = .ok (.l2i, 1) := dk_136 (dq_lk dX4_moveMonths_v4 (r := 1) (x := 136) rfl)
theorem dX4_moveMonths_66 : decode cX4_moveMonths 66 = .ok (.lload 5, 2) := dk_22 (dq_lk dX4_moveMonths_v4 (r := 2) (x := 22) rfl) (dq_lk dX4_moveMonths_v4 (r := 3) (x := 5) rfl)
theorem dX4_moveMonths_68 : decode cX4_moveMonths 68 = .ok (.ldc2_w 151, 3) := dk_20 (dq_lk dX4_moveMonths_v4 (r := 4) (x := 20) rfl) (dq_lk dX4_moveMonths_v4 (r := 5) (x := 0) rfl) (dq_lk dX4_moveMonths_v4 (r := 6) (x := 151) rfl)
theorem dX4_moveMonths_71 : decode cX4_moveMonths 71 = .ok (.invokestatic 102, 3) := dk_184 (dq_lk dX4_moveMonths_v4 (r := 7) (x := 184) rfl) (dq_lk dX4_moveMonths_v4 (r := 8) (x := 0) rfl) (dq_lk dX4_moveMonths_v4 (r := 9) (x := 102) rfl)
theorem dX4_moveMonths_74 : decode cX4_moveMonths 74 = .ok (.iconst 1, 1) := dk_4 (dq_lk dX4_moveMonths_v4 (r := 10) (x := 4) rfl)
theorem dX4_moveMonths_75 : decode cX4_moveMonths 75 = .ok (.iadd, 1) := dk_96 (dq_lk dX4_moveMonths_v4 (r := 11) (x := 96) rfl)
theorem dX4_moveMonths_76 : decode cX4_moveMonths 76 = .ok (.aload 4, 2) := dk_25 (dq_lk dX4_moveMonths_v4 (r := 12) (x := 25) rfl) (dq_lk dX4_moveMonths_v4 (r := 13) (x := 4) rfl)
theorem dX4_moveMonths_78 : decode cX4_moveMonths 78 = .ok (.iconst 2, 1) := dk_5 (dq_lk dX4_moveMonths_v4 (r := 14) (x := 5) rfl)
theorem dX4_moveMonths_79 : decode cX4_moveMonths 79 = .ok (.iaload, 1) := dk_46 (dq_lk dX4_moveMonths_v4 (r := 15) (x := 46) rfl)
theorem dX4_moveMonths_80 : decode cX4_moveMonths 80 = .ok (.invokevirtual 174, 3) := dk_182 (dq_lk dX4_moveMonths_v5 (r := 0) (x := 182) rfl) (dq_lk dX4_moveMonths_v5 (r := 1) (x := 0) rfl) (dq_lk dX4_moveMonths_v5 (r := 2) (x := 174) rfl)
theorem dX4_moveMonths_83 : decode cX4_moveMonths 83 = .ok (.ireturn, 1) := dk_172 (dq_lk dX4_moveMonths_v5 (r := 3) (x := 172) rfl)
theorem dX4_date_w0 : (cX4_date.data.toList.drop 0).take 64 = [42, 27, 184, 0, 61, 154, 0, 11, 21, 6, 184, 0, 61, 153, 0, 7, 4, 167, 0, 4, 3, 29, 133, 9, 20, 0, 153, 184, 0, 38, 153, 0, 13, 21, 4, 21, 5, 184, 0, 155, 154, 0, 7, 4, 167, 0, 4, 3, 182, 0, 68, 153, 0, 5, 3, 172, 28, 29, 16, 100, 108, 29, 16, 100] := by decide +kernel
theorem dX4_date_w1 : (cX4_date.data.toList.drop 64).take 64 = [112, 184, 0, 159, 153, 0, 34, 42, 27, 28, 29, 16, 100, 108, 29, 16, 100, 112, 184, 0, 163, 21, 4, 21, 5, 42, 180, 0, 7, 21, 6, 46, 182, 0, 139, 167, 0, 7, 42, 182, 0, 80, 172] := by decide +kernel
theorem dX4_date_v0 : (cX4_date.data.toList.drop 0).take 16 = [42, 27, 184, 0, 61, 154, 0, 11, 21, 6, 184, 0, 61, 153, 0, 7] := dq_sub (n := 0) (j := 0) dX4_date_w0 (by decide) rfl
theorem dX4_date_v1 : (cX4_date.data.toList.drop 16).take 16 = [4, 167, 0, 4, 3, 29, 133, 9, 20, 0, 153, 184, 0, 38, 153, 0] := dq_sub (n := 0) (j := 16) dX4_date_w0 (by decide) rfl
theorem dX4_date_v2 : (cX4_date.data.toList.drop 32).take 16 = [13, 21, 4, 21, 5, 184, 0, 155, 154, 0, 7, 4, 167, 0, 4, 3] := dq_sub (n := 0) (j := 32) dX4_date_w0 (by decide) rfl
theorem dX4_date_v3 : (cX4_date.data.toList.drop 48).take 16 = [182, 0, 68, 153, 0, 5, 3, 172, 28, 29, 16, 100, 108, 29, 16, 100] := dq_sub (n := 0) (j := 48) dX4_date_w0 (by decide) rfl
theorem dX4_date_v4 : (cX4_date.data.toList.drop 64).take 16 = [112, 184, 0, 159, 153, 0, 34, 42, 27, 28, 29, 16, 100, 108, 29, 16] := dq_sub (n := 64) (j := 0) dX4_date_w1 (by decide) rfl
theorem dX4_date_v5 : (cX4_date.data.toList.drop 80).take 16 = [100, 112, 184, 0, 163, 21, 4, 21, 5, 42, 180, 0, 7, 21, 6, 46] := dq_sub (n := 64) (j := 16) dX4_date_w1 (by decide) rfl
theorem dX4_date_v6 : (cX4_date.data.toList.drop 96).take 16 = [182, 0, 139, 167, 0, 7, 42, 182, 0, 80, 172] := dq_sub (n := 64) (j := 32) dX4_date_w1 (by decide) rfl
theorem dX4_date_0 : decode cX4_date 0 = .ok (.aload_n 0, 1) := dk_42 (dq_lk dX4_date_v0 (r := 0) (x := 42) rfl)
theorem dX4_date_1 : decode cX4_date 1 = .ok (.iload_n 1, 1) := dk_27 (dq_lk dX4_date_v0 (r := 1) (x := 27) rfl)
theorem dX4_date_2 : decode cX4_date 2 = .ok (.invokestatic 61, 3) := dk_184 (dq_lk dX4_date_v0 (r := 2) (x := 184) rfl) (dq_lk dX4_date_v0 (r := 3) (x := 0) rfl) (dq_lk dX4_date_v0 (r := 4) (x := 61) rfl)
theorem dX4_date_5 : decode cX4_date 5 = .ok (.ifCond .ne 11, 3) := dk_154 (dq_lk dX4_date_v0 (r := 5) (x := 154) rfl) (dq_lk dX4_date_v0 (r := 6) (x := 0) rfl) (dq_lk dX4_date_v0 (r := 7) (x := 11) rfl) (by decide +kernel)
theorem dX4_date_8 : decode cX4_date 8 = .ok (.iload 6, 2) := dk_21 (dq_lk dX4_date_v0 (r := 8) (x := 21) rfl) (dq_lk dX4_date_v0 (r := 9) (x := 6) rfl)
theorem dX4_date_10 : decode cX4_date 10 = .ok (.invokestatic 61, 3) := dk_184 (dq_lk dX4_date_v0 (r := 10) (x := 184) rfl) (dq_lk dX4_date_v0 (r := 11) (x := 0) rfl) (dq_lk dX4_date_v0 (r := 12) (x := 61) rfl)
theorem dX4_date_13 : decode cX4_date 13 = .ok (.ifCond .eq 7, 3) := dk_153 (dq_lk dX4_date_v0 (r := 13) (x := 153) rfl) (dq_lk dX4_date_v0 (r := 14) (x := 0) rfl) (dq_lk dX4_date_v0 (r := 15) (x := 7) rfl) (by decide +kernel)
theorem dX4_date_16 : decode cX4_date 16 = .ok (.iconst 1, 1) := dk_4 (dq_lk dX4_date_v1 (r := 0) (x := 4) rfl)
theorem dX4_date_17 : decode cX4_date 17 = .ok (.goto 4, 3) := dk_167 (dq_lk dX4_date_v1 (r := 1) (x := 167) rfl) (dq_lk dX4_date_v1 (r := 2) (x := 0) rfl) (dq_lk dX4_date_v1 (r := 3) (x := 4) rfl) (by decide +kernel)
theorem dX4_date_20 : decode cX4_date 20 = .ok (.iconst 0, 1) := dk_3 (dq_lk dX4_date_v1 (r := 4) (x := 3) rfl)
theorem dX4_date_21 : decode cX4_date 21 = .ok (.iload_n 3, 1) := dk_29 (dq_lk dX4_date_v1 (r := 5) (x := 29) rfl)
theorem dX4_date_22 : decode cX4_date 22 = .ok (.i2l, 1) := dk_133 (dq_lk dX4_date_v1 (r := 6) (x := 133) rfl)
theorem dX4_date_23 : decode cX4_date 23 = .ok (.lconst 0, 1) := dk_9 (dq_lk dX4_date_v1 (r := 7) (x := 9) rfl)
theorem dX4_date_24 : decode cX4_date 24 = .ok (.ldc2_w 153, 3) := dk_20 (dq_lk dX4_date_v1 (r := 8) (x := 20) rfl) (dq_lk dX4_date_v1 (r := 9) (x := 0) rfl) (dq_lk dX4_date_v1 (r := 10) (x := 153) rfl)
theorem dX4_date_27 : decode cX4_date 27 = .ok (.invokestatic 38, 3) := dk_184 (dq_lk dX4_date_v1 (r := 11) (x := 184) rfl) (dq_lk dX4_date_v1 (r := 12) (x := 0) rfl) (dq_lk dX4_date_v1 (r := 13) (x := 38) rfl)
theorem dX4_date_30 : decode cX4_date 30 = .ok (.ifCond .eq 13, 3) := dk_153 (dq_lk dX4_date_v1 (r := 14) (x := 153) rfl) (dq_lk dX4_date_v1 (r := 15) (x := 0) rfl) (dq_lk dX4_date_v2 (r := 0) (x := 13) rfl) (by decide +kernel)
theorem dX4_date_33 : decode cX4_date 33 = .ok (.iload 4, 2) := dk_21 (dq_lk dX4_date_v2 (r := 1) (x := 21) rfl) (dq_lk dX4_date_v2 (r := 2) (x := 4) rfl)
theorem dX4_date_35 : decode cX4_date 35 = .ok (.iload 5, 2) := dk_21 (dq_lk dX4_date_v2 (r := 3) (x := 21) rfl) (dq_lk dX4_date_v2 (r := 4) (x := 5) rfl)
theorem dX4_date_37 : decode cX4_date 37 = .ok (.invokestatic 155, 3) := dk_184 (dq_lk dX4_date_v2 (r := 5) (x := 184) rfl) (dq_lk dX4_date_v2 (r := 6) (x := 0) rfl) (dq_lk dX4_date_v2 (r := 7) (x := 155) rfl)
theorem dX4_date_40 : decode cX4_date 40 = .ok (.ifCond .ne 7, 3) := dk_154 (dq_lk dX4_date_v2 (r := 8) (x := 154) rfl) (dq_lk dX4_date_v2 (r := 9) (x := 0) rfl) (dq_lk dX4_date_v2 (r := 10) (x := 7) rfl) (by decide +kernel)
theorem dX4_date_43 : decode cX4_date 43 = .ok (.iconst 1, 1) := dk_4 (dq_lk dX4_date_v2 (r := 11) (x := 4) rfl)
theorem dX4_date_44 : decode cX4_date 44 = .ok (.goto 4, 3) := dk_167 (dq_lk dX4_date_v2 (r := 12) (x := 167) rfl) (dq_lk dX4_date_v2 (r := 13) (x := 0) rfl) (dq_lk dX4_date_v2 (r := 14) (x := 4) rfl) (by decide +kernel)
theorem dX4_date_47 : decode cX4_date 47 = .ok (.iconst 0, 1) := dk_3 (dq_lk dX4_date_v2 (r := 15) (x := 3) rfl)
theorem dX4_date_48 : decode cX4_date 48 = .ok (.invokevirtual 68, 3) := dk_182 (dq_lk dX4_date_v3 (r := 0) (x := 182) rfl) (dq_lk dX4_date_v3 (r := 1) (x := 0) rfl) (dq_lk dX4_date_v3 (r := 2) (x := 68) rfl)
theorem dX4_date_51 : decode cX4_date 51 = .ok (.ifCond .eq 5, 3) := dk_153 (dq_lk dX4_date_v3 (r := 3) (x := 153) rfl) (dq_lk dX4_date_v3 (r := 4) (x := 0) rfl) (dq_lk dX4_date_v3 (r := 5) (x := 5) rfl) (by decide +kernel)
theorem dX4_date_54 : decode cX4_date 54 = .ok (.iconst 0, 1) := dk_3 (dq_lk dX4_date_v3 (r := 6) (x := 3) rfl)
theorem dX4_date_55 : decode cX4_date 55 = .ok (.ireturn, 1) := dk_172 (dq_lk dX4_date_v3 (r := 7) (x := 172) rfl)
theorem dX4_date_56 : decode cX4_date 56 = .ok (.iload_n 2, 1) := dk_28 (dq_lk dX4_date_v3 (r := 8) (x := 28) rfl)
theorem dX4_date_57 : decode cX4_date 57 = .ok (.iload_n 3, 1) := dk_29 (dq_lk dX4_date_v3 (r := 9) (x := 29) rfl)
theorem dX4_date_58 : decode cX4_date 58 = .ok (.bipush 100, 2) := dk_16 (dq_lk dX4_date_v3 (r := 10) (x := 16) rfl) (dq_lk dX4_date_v3 (r := 11) (x := 100) rfl) (by decide +kernel)
theorem dX4_date_60 : decode cX4_date 60 = .ok (.idiv, 1) := dk_108 (dq_lk dX4_date_v3 (r := 12) (x := 108) rfl)
theorem dX4_date_61 : decode cX4_date 61 = .ok (.iload_n 3, 1) := dk_29 (dq_lk dX4_date_v3 (r := 13) (x := 29) rfl)
theorem dX4_date_62 : decode cX4_date 62 = .ok (.bipush 100, 2) := dk_16 (dq_lk dX4_date_v3 (r := 14) (x := 16) rfl) (dq_lk dX4_date_v3 (r := 15) (x := 100) rfl) (by decide +kernel)
theorem dX4_date_64 : decode cX4_date 64 = .ok (.irem, 1) := dk_112 (dq_lk dX4_date_v4 (r := 0) (x := 112) rfl)
theorem dX4_date_65 : decode cX4_date 65 = .ok (.invokestatic 159, 3) := dk_184 (dq_lk dX4_date_v4 (r := 1) (x := 184) rfl) (dq_lk dX4_date_v4 (r := 2) (x := 0) rfl) (dq_lk dX4_date_v4 (r := 3) (x := 159) rfl)
theorem dX4_date_68 : decode cX4_date 68 = .ok (.ifCond .eq 34, 3) := dk_153 (dq_lk dX4_date_v4 (r := 4) (x := 153) rfl) (dq_lk dX4_date_v4 (r := 5) (x := 0) rfl) (dq_lk dX4_date_v4 (r := 6) (x := 34) rfl) (by decide +kernel)
theorem dX4_date_71 : decode cX4_date 71 = .ok (.aload_n 0, 1) := dk_42 (dq_lk dX4_date_v4 (r := 7) (x := 42) rfl)
theorem dX4_date_72 : decode cX4_date 72 = .ok (.iload_n 1, 1) := dk_27 (dq_lk dX4_date_v4 (r := 8) (x := 27) rfl)
theorem dX4_date_73 : decode cX4_date 73 = .ok (.iload_n 2, 1) := dk_28 (dq_lk dX4_date_v4 (r := 9) (x := 28) rfl)
theorem dX4_date_74 : decode cX4_date 74 = .ok (.iload_n 3, 1) := dk_29 (dq_lk dX4_date_v4 (r := 10) (x := 29) rfl)
theorem dX4_date_75 : decode cX4_date 75 = .ok (.bipush 100, 2) := dk_16 (dq_lk dX4_date_v4 (r := 11) (x := 16) rfl) (dq_lk dX4_date_v4 (r := 12) (x := 100) rfl) (by decide +kernel)
theorem dX4_date_77 : decode cX4_date 77 = .ok (.idiv, 1) := dk_108 (dq_lk dX4_date_v4 (r := 13) (x := 108) rfl)
theorem dX4_date_78 : decode cX4_date 78 = .ok (.iload_n 3, 1) := dk_29 (dq_lk dX4_date_v4 (r := 14) (x := 29) rfl)
theorem dX4_date_79 : decode cX4_date 79 = .ok (.bipush 100, 2) := dk_16 (dq_lk dX4_date_v4 (r := 15) (x := 16) rfl) (dq_lk dX4_date_v5 (r := 0) (x := 100) rfl) (by decide +kernel)
theorem dX4_date_81 : decode cX4_date 81 = .ok (.irem, 1) := dk_112 (dq_lk dX4_date_v5 (r := 1) (x := 112) rfl)
theorem dX4_date_82 : decode cX4_date 82 = .ok (.invokestatic 163, 3) := dk_184 (dq_lk dX4_date_v5 (r := 2) (x := 184) rfl) (dq_lk dX4_date_v5 (r := 3) (x := 0) rfl) (dq_lk dX4_date_v5 (r := 4) (x := 163) rfl)
theorem dX4_date_85 : decode cX4_date 85 = .ok (.iload 4, 2) := dk_21 (dq_lk dX4_date_v5 (r := 5) (x := 21) rfl) (dq_lk dX4_date_v5 (r := 6) (x := 4) rfl)
theorem dX4_date_87 : decode cX4_date 87 = .ok (.iload 5, 2) := dk_21 (dq_lk dX4_date_v5 (r := 7) (x := 21) rfl) (dq_lk dX4_date_v5 (r := 8) (x := 5) rfl)
theorem dX4_date_89 : decode cX4_date 89 = .ok (.aload_n 0, 1) := dk_42 (dq_lk dX4_date_v5 (r := 9) (x := 42) rfl)
theorem dX4_date_90 : decode cX4_date 90 = .ok (.getfield 7, 3) := dk_180 (dq_lk dX4_date_v5 (r := 10) (x := 180) rfl) (dq_lk dX4_date_v5 (r := 11) (x := 0) rfl) (dq_lk dX4_date_v5 (r := 12) (x := 7) rfl)
theorem dX4_date_93 : decode cX4_date 93 = .ok (.iload 6, 2) := dk_21 (dq_lk dX4_date_v5 (r := 13) (x := 21) rfl) (dq_lk dX4_date_v5 (r := 14) (x := 6) rfl)
theorem dX4_date_95 : decode cX4_date 95 = .ok (.iaload, 1) := dk_46 (dq_lk dX4_date_v5 (r := 15) (x := 46) rfl)
theorem dX4_date_96 : decode cX4_date 96 = .ok (.invokevirtual 139, 3) := dk_182 (dq_lk dX4_date_v6 (r := 0) (x := 182) rfl) (dq_lk dX4_date_v6 (r := 1) (x := 0) rfl) (dq_lk dX4_date_v6 (r := 2) (x := 139) rfl)
theorem dX4_date_99 : decode cX4_date 99 = .ok (.goto 7, 3) := dk_167 (dq_lk dX4_date_v6 (r := 3) (x := 167) rfl) (dq_lk dX4_date_v6 (r := 4) (x := 0) rfl) (dq_lk dX4_date_v6 (r := 5) (x := 7) rfl) (by decide +kernel)
theorem dX4_date_102 : decode cX4_date 102 = .ok (.aload_n 0, 1) := dk_42 (dq_lk dX4_date_v6 (r := 6) (x := 42) rfl)
theorem dX4_date_103 : decode cX4_date 103 = .ok (.invokevirtual 80, 3) := dk_182 (dq_lk dX4_date_v6 (r := 7) (x := 182) rfl) (dq_lk dX4_date_v6 (r := 8) (x := 0) rfl) (dq_lk dX4_date_v6 (r := 9) (x := 80) rfl)
theorem dX4_date_106 : decode cX4_date 106 = .ok (.ireturn, 1) := dk_172 (dq_lk dX4_date_v6 (r := 10) (x := 172) rfl)
theorem dX4_set_w0 : (cX4_set.data.toList.drop 0).take 64 = [42, 27, 184, 0, 61, 28, 133, 9, 20, 0, 183, 184, 0, 38, 154, 0, 7, 4, 167, 0, 4, 3, 182, 0, 68, 153, 0, 5, 3, 172, 42, 180, 0, 17, 27, 46, 184, 0, 170, 58, 4, 42, 180, 0, 20, 27, 46, 54, 5, 28, 170, 0, 0, 0, 1, 111, 0, 0, 0, 0, 0, 0, 0, 6] := by decide +kernel
theorem dX4_set_w1 : (cX4_set.data.toList.drop 64).take 64 = [0, 0, 0, 42, 0, 0, 0, 78, 0, 0, 0, 112, 0, 0, 0, 149, 0, 0, 0, 195, 0, 0, 0, 250, 0, 0, 1, 58, 29, 133, 20, 0, 147, 20, 0, 149, 184, 0, 38, 153, 0, 20, 42, 27, 29, 25, 4, 4, 46, 25, 4, 5, 46, 182, 0, 174, 167, 0, 7, 42, 182, 0, 80, 172] := by decide +kernel
theorem dX4_set_w2 : (cX4_set.data.toList.drop 128).take 64 = [29, 133, 10, 20, 0, 151, 184, 0, 38, 153, 0, 20, 42, 27, 25, 4, 3, 46, 29, 25, 4, 5, 46, 182, 0, 174, 167, 0, 7, 42, 182, 0, 80, 172, 25, 4, 3, 46, 25, 4, 4, 46, 29, 184, 0, 159, 153, 0, 20, 42, 27, 25, 4, 3, 46, 25, 4, 4, 46, 29, 182, 0, 174, 167] := by decide +kernel
theorem dX4_set_w3 : (cX4_set.data.toList.drop 192).take 64 = [0, 7, 42, 182, 0, 80, 172, 29, 133, 10, 25, 4, 3, 46, 184, 0, 48, 133, 184, 0, 38, 154, 0, 8, 42, 182, 0, 80, 172, 42, 180, 0, 17, 27, 25, 4, 3, 46, 184, 0, 52, 29, 96, 4, 100, 79, 42, 180, 0, 17, 27, 46, 172, 29, 133, 9, 20, 0, 191, 184, 0, 38, 153, 0] := by decide +kernel
theorem dX4_set_w4 : (cX4_set.data.toList.drop 256).take 64 = [41, 42, 27, 42, 180, 0, 17, 27, 46, 17, 14, 16, 29, 104, 21, 5, 17, 14, 16, 112, 96, 42, 180, 0, 23, 27, 46, 42, 180, 0, 26, 27, 46, 182, 0, 139, 167, 0, 7, 42, 182, 0, 80, 172, 29, 133, 9, 20, 0, 78, 184, 0, 38, 153, 0, 50, 42, 27, 42, 180, 0, 17, 27, 46] := by decide +kernel
theorem dX4_set_w5 : (cX4_set.data.toList.drop 320).take 64 = [21, 5, 17, 14, 16, 108, 17, 14, 16, 104, 16, 60, 29, 104, 96, 21, 5, 16, 60, 112, 96, 42, 180, 0, 23, 27, 46, 42, 180, 0, 26, 27, 46, 182, 0, 139, 167, 0, 7, 42, 182, 0, 80, 172, 29, 133, 9, 20, 0, 78, 184, 0, 38, 153, 0, 39, 42, 27, 42, 180, 0, 17, 27, 46] := by decide +kernel
theorem dX4_set_w6 : (cX4_set.data.toList.drop 384).take 64 = [21, 5, 16, 60, 108, 16, 60, 104, 29, 96, 42, 180, 0, 23, 27, 46, 42, 180, 0, 26, 27, 46, 182, 0, 139, 167, 0, 7, 42, 182, 0, 80, 172, 29, 133, 9, 20, 0, 145, 184, 0, 38, 153, 0, 26, 42, 27, 42, 180, 0, 17, 27, 46, 21, 5, 29, 42, 180, 0, 26, 27, 46, 182, 0] := by decide +kernel
theorem dX4_set_w7 : (cX4_set.data.toList.drop 448).take 64 = [139, 167, 0, 7, 42, 182, 0, 80, 172] := by decide +kernel
theorem dX4_set_v0 : (cX4_set.data.toList.drop 0).take 16 = [42, 27, 184, 0, 61, 28, 133, 9, 20, 0, 183, 184, 0, 38, 154, 0] := dq_sub (n := 0) (j := 0) dX4_set_w0 (by decide) rfl
theorem dX4_set_v1 : (cX4_set.data.toList.drop 16).take 16 = [7, 4, 167, 0, 4, 3, 182, 0, 68, 153, 0, 5, 3, 172, 42, 180] := dq_sub (n := 0) (j := 16) dX4_set_w0 (by decide) rfl
theorem dX4_set_v2 : (cX4_set.data.toList.drop 32).take 16 = [0, 17, 27, 46, 184, 0, 170, 58, 4, 42, 180, 0, 20, 27, 46, 54] := dq_sub (n := 0) (j := 32) dX4_set_w0 (by decide) rfl
theorem dX4_set_v3 : (cX4_set.data.toList.drop 48).take 16 = [5, 28, 170, 0, 0, 0, 1, 111, 0, 0, 0, 0, 0, 0, 0, 6] := dq_sub (n := 0) (j := 48) dX4_set_w0 (by decide) rfl
theorem dX4_set_v5 : (cX4_set.data.toList.drop 80).take 16 = [0, 0, 0, 195, 0, 0, 0, 250, 0, 0, 1, 58, 29, 133, 20, 0] := dq_sub (n := 64) (j := 16) dX4_set_w1 (by decide) rfl
theorem dX4_set_v6 : (cX4_set.data.toList.drop 96).take 16 = [147, 20, 0, 149, 184, 0, 38, 153, 0, 20, 42, 27, 29, 25, 4, 4] := dq_sub (n := 64) (j := 32) dX4_set_w1 (by decide) rfl
theorem dX4_set_v7 : (cX4_set.data.toList.drop 112).take 16 = [46, 25, 4, 5, 46, 182, 0, 174, 167, 0, 7, 42, 182, 0, 80, 172] := dq_sub (n := 64) (j := 48) dX4_set_w1 (by decide) rfl
theorem dX4_set_v8 : (cX4_set.data.toList.drop 128).take 16 = [29, 133, 10, 20, 0, 151, 184, 0, 38, 153, 0, 20, 42, 27, 25, 4] := dq_sub (n := 128) (j := 0) dX4_set_w2 (by decide) rfl
theorem dX4_set_v9 : (cX4_set.data.toList.drop 144).take 16 = [3, 46, 29, 25, 4, 5, 46, 182, 0, 174, 167, 0, 7, 42, 182, 0] := dq_sub (n := 128) (j := 16) dX4_set_w2 (by decide) rfl
theorem dX4_set_v10 : (cX4_set.data.toList.drop 160).take 16 = [80, 172, 25, 4, 3, 46, 25, 4, 4, 46, 29, 184, 0, 159, 153, 0] := dq_sub (n := 128) (j := 32) dX4_set_w2 (by decide) rfl
theorem dX4_set_v11 : (cX4_set.data.toList.drop 176).take 16 = [20, 42, 27, 25, 4, 3, 46, 25, 4, 4, 46, 29, 182, 0, 174, 167] := dq_sub (n := 128) (j := 48) dX4_set_w2 (by decide) rfl
theorem dX4_set_v12 : (cX4_set.data.toList.drop 192).take 16 = [0, 7, 42, 182, 0, 80, 172, 29, 133, 10, 25, 4, 3, 46, 184, 0] := dq_sub (n := 192) (j := 0) dX4_set_w3 (by decide) rfl
theorem dX4_set_v13 : (cX4_set.data.toList.drop 208).take 16 = [48, 133, 184, 0, 38, 154, 0, 8, 42, 182, 0, 80, 172, 42, 180, 0] := dq_sub (n := 192) (j := 16) dX4_set_w3 (by decide) rfl
theorem dX4_set_v14 : (cX4_set.data.toList.drop 224).take 16 = [17, 27, 25, 4, 3, 46, 184, 0, 52, 29, 96, 4, 100, 79, 42, 180] := dq_sub (n := 192) (j := 32) dX4_set_w3 (by decide) rfl
theorem dX4_set_v15 : (cX4_set.data.toList.drop 240).take 16 = [0, 17, 27, 46, 172, 29, 133, 9, 20, 0, 191, 184, 0, 38, 153, 0] := dq_sub (n := 192) (j := 48) dX4_set_w3 (by decide) rfl
theorem dX4_set_v16 : (cX4_set.data.toList.drop 256).take 16 = [41, 42, 27, 42, 180, 0, 17, 27, 46, 17, 14, 16, 29, 104, 21, 5] := dq_sub (n := 256) (j := 0) dX4_set_w4 (by decide) rfl
theorem dX4_set_v17 : (cX4_set.data.toList.drop 272).take 16 = [17, 14, 16, 112, 96, 42, 180, 0, 23, 27, 46, 42, 180, 0, 26, 27] := dq_sub (n := 256) (j := 16) dX4_set_w4 (by decide) rfl
theorem dX4_set_v18 : (cX4_set.data.toList.drop 288).take 16 = [46, 182, 0, 139, 167, 0, 7, 42, 182, 0, 80, 172, 29, 133, 9, 20] := dq_sub (n := 256) (j := 32) dX4_set_w4 (by decide) rfl
theorem dX4_set_v19 : (cX4_set.data.toList.drop 304).take 16 = [0, 78, 184, 0, 38, 153, 0, 50, 42, 27, 42, 180, 0, 17, 27, 46] := dq_sub (n := 256) (j := 48) dX4_set_w4 (by decide) rfl
theorem dX4_set_v20 : (cX4_set.data.toList.drop 320).take 16 = [21, 5, 17, 14, 16, 108, 17, 14, 16, 104, 16, 60, 29, 104, 96, 21] := dq_sub (n := 320) (j := 0) dX4_set_w5 (by decide) rfl
theorem dX4_set_v21 : (cX4_set.data.toList.drop 336).take 16 = [5, 16, 60, 112, 96, 42, 180, 0, 23, 27, 46, 42, 180, 0, 26, 27] := dq_sub (n := 320) (j := 16) dX4_set_w5 (by decide) rfl
theorem dX4_set_v22 : (cX4_set.data.toList.drop 352).take 16 = [46, 182, 0, 139, 167, 0, 7, 42, 182, 0, 80, 172, 29, 133, 9, 20] := dq_sub (n := 320) (j := 32) dX4_set_w5 (by decide) rfl
theorem dX4_set_v23 : (cX4_set.data.toList.drop 368).take 16 = [0, 78, 184, 0, 38, 153, 0, 39, 42, 27, 42, 180, 0, 17, 27, 46] := dq_sub (n := 320) (j := 48) dX4_set_w5 (by decide) rfl
theorem dX4_set_v24 : (cX4_set.data.toList.drop 384).take 16 = [21, 5, 16, 60, 108, 16, 60, 104, 29, 96, 42, 180, 0, 23, 27, 46] := dq_sub (n := 384) (j := 0) dX4_set_w6 (by decide) rfl
theorem dX4_set_v25 : (cX4_set.data.toList.drop 400).take 16 = [42, 180, 0, 26, 27, 46, 182, 0, 139, 167, 0, 7, 42, 182, 0, 80] := dq_sub (n := 384) (j := 16) dX4_set_w6 (by decide) rfl
theorem dX4_set_v26 : (cX4_set.data.toList.drop 416).take 16 = [172, 29, 133, 9, 20, 0, 145, 184, 0, 38, 153, 0, 26, 42, 27, 42] := dq_sub (n := 384) (j := 32) dX4_set_w6 (by decide) rfl
theorem dX4_set_v27 : (cX4_set.data.toList.drop 432).take 16 = [180, 0, 17, 27, 46, 21, 5, 29, 42, 180, 0, 26, 27, 46, 182, 0] := dq_sub (n := 384) (j := 48) dX4_set_w6 (by decide) rfl
theorem dX4_set_v28 : (cX4_set.data.toList.drop 448).take 16 = [139, 167, 0, 7, 42, 182, 0, 80, 172] := dq_sub (n := 448) (j := 0) dX4_set_w7 (by decide) rfl
theorem dX4_set_0 : decode cX4_set 0 = .ok (.aload_n 0, 1) := dk_42 (dq_lk dX4_set_v0 (r := 0) (x := 42) rfl)
theorem dX4_set_1 : decode cX4_set 1 = .ok (.iload_n 1, 1) := dk_27 (dq_lk dX4_set_v0 (r := 1) (x := 27) rfl)
theorem dX4_set_2 : decode cX4_set 2 = .ok (.invokestatic 61, 3) := dk_184 (dq_lk dX4_set_v0 (r := 2) (x := 184) rfl) (dq_lk dX4_set_v0 (r := 3) (x := 0) rfl) (dq_lk dX4_set_v0 (r := 4) (x := 61) rfl)
theorem dX4_set_5 : decode cX4_set 5 = .ok (.iload_n 2, 1) := dk_28 (dq_lk dX4_set_v0 (r := 5) (x := 28) rfl)
theorem dX4_set_6 : decode cX4_set 6 = .ok (.i2l, 1) := dk_133 (dq_lk dX4_set_v0 (r := 6) (x := 133) rfl)
theorem dX4_set_7 : decode cX4_set 7 = .ok (.lconst 0, 1) := dk_9 (dq_lk dX4_set_v0 (r := 7) (x := 9) rfl)
theorem dX4_set_8 : decode cX4_set 8 = .ok (.ldc2_w 183, 3) := dk_20 (dq_lk dX4_set_v0 (r := 8) (x := 20) rfl) (dq_lk dX4_set_v0 (r := 9) (x := 0) rfl) (dq_lk dX4_set_v0 (r := 10) (x := 183) rfl)
theorem dX4_set_11 : decode cX4_set 11 = .ok (.invokestatic 38, 3) := dk_184 (dq_lk dX4_set_v0 (r := 11) (x := 184) rfl) (dq_lk dX4_set_v0 (r := 12) (x := 0) rfl) (dq_lk dX4_set_v0 (r := 13) (x := 38) rfl)
theorem dX4_set_14 : decode cX4_set 14 = .ok (.ifCond .ne 7, 3) := dk_154 (dq_lk dX4_set_v0 (r := 14) (x := 154) rfl) (dq_lk dX4_set_v0 (r := 15) (x := 0) rfl) (dq_lk dX4_set_v1 (r := 0) (x := 7) rfl) (by decide +kernel)
theorem dX4_set_17 : decode cX4_set 17 = .ok (.iconst 1, 1) := dk_4 (dq_lk dX4_set_v1 (r := 1) (x := 4) rfl)
theorem dX4_set_18 : decode cX4_set 18 = .ok (.goto 4, 3) := dk_167 (dq_lk dX4_set_v1 (r := 2) (x := 167) rfl) (dq_lk dX4_set_v1 (r := 3) (x := 0) rfl) (dq_lk dX4_set_v1 (r := 4) (x := 4) rfl) (by decide +kernel)
theorem dX4_set_21 : decode cX4_set 21 = .ok (.iconst 0, 1) := dk_3 (dq_lk dX4_set_v1 (r := 5) (x := 3) rfl)
theorem dX4_set_22 : decode cX4_set 22 = .ok (.invokevirtual 68, 3) := dk_182 (dq_lk dX4_set_v1 (r := 6) (x := 182) rfl) (dq_lk dX4_set_v1 (r := 7) (x := 0) rfl) (dq_lk dX4_set_v1 (r := 8) (x := 68) rfl)
theorem dX4_set_25 : decode cX4_set 25 = .ok (.ifCond .eq 5, 3) := dk_153 (dq_lk dX4_set_v1 (r := 9) (x := 153) rfl) (dq_lk dX4_set_v1 (r := 10) (x := 0) rfl) (dq_lk dX4_set_v1 (r := 11) (x := 5) rfl) (by decide +kernel)
theorem dX4_set_28 : decode cX4_set 28 = .ok (.iconst 0, 1) := dk_3 (dq_lk dX4_set_v1 (r := 12) (x := 3) rfl)
theorem dX4_set_29 : decode cX4_set 29 = .ok (.ireturn, 1) := dk_172 (dq_lk dX4_set_v1 (r := 13) (x := 172) rfl)
theorem dX4_set_30 : decode cX4_set 30 = .ok (.aload_n 0, 1) := dk_42 (dq_lk dX4_set_v1 (r := 14) (x := 42) rfl)
theorem dX4_set_31 : decode cX4_set 31 = .ok (.getfield 17, 3) := dk_180 (dq_lk dX4_set_v1 (r := 15) (x := 180) rfl) (dq_lk dX4_set_v2 (r := 0) (x := 0) rfl) (dq_lk dX4_set_v2 (r := 1) (x := 17) rfl)
theorem dX4_set_34 : decode cX4_set 34 = .ok (.iload_n 1, 1) := dk_27 (dq_lk dX4_set_v2 (r := 2) (x := 27) rfl)
theorem dX4_set_35 : decode cX4_set 35 = .ok (.iaload, 1) := dk_46 (dq_lk dX4_set_v2 (r := 3) (x := 46) rfl)
theorem dX4_set_36 : decode cX4_set 36 = .ok (.invokestatic 170, 3) := dk_184 (dq_lk dX4_set_v2 (r := 4) (x := 184) rfl) (dq_lk dX4_set_v2 (r := 5) (x := 0) rfl) (dq_lk dX4_set_v2 (r := 6) (x := 170) rfl)
theorem dX4_set_39 : decode cX4_set 39 = .ok (.astore 4, 2) := dk_58 (dq_lk dX4_set_v2 (r := 7) (x := 58) rfl) (dq_lk dX4_set_v2 (r := 8) (x := 4) rfl)
theorem dX4_set_41 : decode cX4_set 41 = .ok (.aload_n 0, 1) := dk_42 (dq_lk dX4_set_v2 (r := 9) (x := 42) rfl)
theorem dX4_set_42 : decode cX4_set 42 = .ok (.getfield 20, 3) := dk_180 (dq_lk dX4_set_v2 (r := 10) (x := 180) rfl) (dq_lk dX4_set_v2 (r := 11) (x := 0) rfl) (dq_lk dX4_set_v2 (r := 12) (x := 20) rfl)
theorem dX4_set_45 : decode cX4_set 45 = .ok (.iload_n 1, 1) := dk_27 (dq_lk dX4_set_v2 (r := 13) (x := 27) rfl)
theorem dX4_set_46 : decode cX4_set 46 = .ok (.iaload, 1) := dk_46 (dq_lk dX4_set_v2 (r := 14) (x := 46) rfl)
theorem dX4_set_47 : decode cX4_set 47 = .ok (.istore 5, 2) := dk_54 (dq_lk dX4_set_v2 (r := 15) (x := 54) rfl) (dq_lk dX4_set_v3 (r := 0) (x := 5) rfl)
theorem dX4_set_49 : decode cX4_set 49 = .ok (.iload_n 2, 1) := dk_28 (dq_lk dX4_set_v3 (r := 1) (x := 28) rfl)
theorem dX4_set_50 : decode cX4_set 50 = .ok (.tableswitch 367 0 6 #[42, 78, 112, 149, 195, 250, 314], 42) := by decide +kernel
theorem dX4_set_92 : decode cX4_set 92 = .ok (.iload_n 3, 1) := dk_29 (dq_lk dX4_set_v5 (r := 12) (x := 29) rfl)
theorem dX4_set_93 : decode cX4_set 93 = .ok (.i2l, 1) := dk_133 (dq_lk dX4_set_v5 (r := 13) (x := 133) rfl)
theorem dX4_set_94 : decode cX4_set 94 = .ok (.ldc2_w 147, 3) := dk_20 (dq_lk dX4_set_v5 (r := 14) (x := 20) rfl) (dq_lk dX4_set_v5 (r := 15) (x := 0) rfl) (dq_lk dX4_set_v6 (r := 0) (x := 147) rfl)
theorem dX4_set_97 : decode cX4_set 97 = .ok (.ldc2_w 149, 3) := dk_20 (dq_lk dX4_set_v6 (r := 1) (x := 20) rfl) (dq_lk dX4_set_v6 (r := 2) (x := 0) rfl) (dq_lk dX4_set_v6 (r := 3) (x := 149) rfl)
theorem dX4_set_100 : decode cX4_set 100 = .ok (.invokestatic 38, 3) := dk_184 (dq_lk dX4_set_v6 (r := 4) (x := 184) rfl) (dq_lk dX4_set_v6 (r := 5) (x := 0) rfl) (dq_lk dX4_set_v6 (r := 6) (x := 38) rfl)
theorem dX4_set_103 : decode cX4_set 103 = .ok (.ifCond .eq 20, 3) := dk_153 (dq_lk dX4_set_v6 (r := 7) (x := 153) rfl) (dq_lk dX4_set_v6 (r := 8) (x := 0) rfl) (dq_lk dX4_set_v6 (r := 9) (x := 20) rfl) (by decide +kernel)
theorem dX4_set_106 : decode cX4_set 106 = .ok (.aload_n 0, 1) := dk_42 (dq_lk dX4_set_v6 (r := 10) (x := 42) rfl)
theorem dX4_set_107 : decode cX4_set 107 = .ok (.iload_n 1, 1) := dk_27 (dq_lk dX4_set_v6 (r := 11) (x := 27) rfl)
theorem dX4_set_108 : decode cX4_set 108 = .ok (.iload_n 3, 1) := dk_29 (dq_lk dX4_set_v6 (r := 12) (x := 29) rfl)
theorem dX4_set_109 : decode cX4_set 109 = .ok (.aload 4, 2) := dk_25 (dq_lk dX4_set_v6 (r := 13) (x := 25) rfl) (dq_lk dX4_set_v6 (r := 14) (x := 4) rfl)
theorem dX4_set_111 : decode cX4_set 111 = .ok (.iconst 1, 1) := dk_4 (dq_lk dX4_set_v6 (r := 15) (x := 4) rfl)
theorem dX4_set_112 : decode cX4_set 112 = .ok (.iaload, 1) := dk_46 (dq_lk dX4_set_v7 (r := 0) (x := 46) rfl)
theorem dX4_set_113 : decode cX4_set 113 = .ok (.aload 4, 2) := dk_25 (dq_lk dX4_set_v7 (r := 1) (x := 25) rfl) (dq_lk dX4_set_v7 (r := 2) (x := 4) rfl)
theorem dX4_set_115 : decode cX4_set 115 = .ok (.iconst 2, 1) := dk_5 (dq_lk dX4_set_v7 (r := 3) (x := 5) rfl)
theorem dX4_set_116 : decode cX4_set 116 = .ok (.iaload, 1) := dk_46 (dq_lk dX4_set_v7 (r := 4) (x := 46) rfl)
theorem dX4_set_117 : decode cX4_set 117 = .ok (.invokevirtual 174, 3) := dk_182 (dq_lk dX4_set_v7 (r := 5) (x := 182) rfl) (dq_lk dX4_set_v7 (r := 6) (x := 0) rfl) (dq_lk dX4_set_v7 (r := 7) (x := 174) rfl)
theorem dX4_set_120 : decode cX4_set 120 = .ok (.goto 7, 3) := dk_167 (dq_lk dX4_set_v7 (r := 8) (x := 167) rfl) (dq_lk dX4_set_v7 (r := 9) (x := 0) rfl) (dq_lk dX4_set_v7 (r := 10) (x := 7) rfl) (by decide +kernel)
theorem dX4_set_123 : decode cX4_set 123 = .ok (.aload_n 0, 1) := dk_42 (dq_lk dX4_set_v7 (r := 11) (x := 42) rfl)
theorem dX4_set_124 : decode cX4_set 124 = .ok (.invokevirtual 80, 3) := dk_182 (dq_lk dX4_set_v7 (r := 12) (x := 182) rfl) (dq_lk dX4_set_v7 (r := 13) (x := 0) rfl) (dq_lk dX4_set_v7 (r := 14) (x := 80) rfl)
theorem dX4_set_127 : decode cX4_set 127 = .ok (.ireturn, 1) := dk_172 (dq_lk dX4_set_v7 (r := 15) (x := 172) rfl)
theorem dX4_set_128 : decode cX4_set 128 = .ok (.iload_n 3, 1) := dk_29 (dq_lk dX4_set_v8 (r := 0) (x := 29) rfl)
theorem dX4_set_129 : decode cX4_set 129 = .ok (.i2l, 1) := dk_133 (dq_lk dX4_set_v8 (r := 1) (x := 133) rfl)
theorem dX4_set_130 : decode cX4_set 130 = .ok (.lconst 1, 1) := dk_10 (dq_lk dX4_set_v8 (r := 2) (x := 10) rfl)
theorem dX4_set_131 : decode cX4_set 131 = .ok (.ldc2_w 151, 3) := dk_20 (dq_lk dX4_set_v8 (r := 3) (x := 20) rfl) (dq_lk dX4_set_v8 (r := 4) (x := 0) rfl) (dq_lk dX4_set_v8 (r := 5) (x := 151) rfl)
theorem dX4_set_134 : decode cX4_set 134 = .ok (.invokestatic 38, 3) := dk_184 (dq_lk dX4_set_v8 (r := 6) (x := 184) rfl) (dq_lk dX4_set_v8 (r := 7) (x := 0) rfl) (dq_lk dX4_set_v8 (r := 8) (x := 38) rfl)
theorem dX4_set_137 : decode cX4_set 137 = .ok (.ifCond .eq 20, 3) := dk_153 (dq_lk dX4_set_v8 (r := 9) (x := 153) rfl) (dq_lk dX4_set_v8 (r := 10) (x := 0) rfl) (dq_lk dX4_set_v8 (r := 11) (x := 20) rfl) (by decide +kernel)
theorem dX4_set_140 : decode cX4_set 140 = .ok (.aload_n 0, 1) := dk_42 (dq_lk dX4_set_v8 (r := 12) (x := 42) rfl)
theorem dX4_set_141 : decode cX4_set 141 = .ok (.iload_n 1, 1) := dk_27 (dq_lk dX4_set_v8 (r := 13) (x := 27) rfl)
theorem dX4_set_142 : decode cX4_set 142 = .ok (.aload 4, 2) := dk_25 (dq_lk dX4_set_v8 (r := 14) (x := 25) rfl) (dq_lk dX4_set_v8 (r := 15) (x := 4) rfl)
theorem dX4_set_144 : decode cX4_set 144 = .ok (.iconst 0, 1) := dk_3 (dq_lk dX4_set_v9 (r := 0) (x := 3) rfl)
theorem dX4_set_145 : decode cX4_set 145 = .ok (.iaload, 1) := dk_46 (dq_lk dX4_set_v9 (r := 1) (x := 46) rfl)
theorem dX4_set_146 : decode cX4_set 146 = .ok (.iload_n 3, 1) := dk_29 (dq_lk dX4_set_v9 (r := 2) (x := 29) rfl)
theorem dX4_set_147 : decode cX4_set 147 = .ok (.aload 4, 2) := dk_25 (dq_lk dX4_set_v9 (r := 3) (x := 25) rfl) (dq_lk dX4_set_v9 (r := 4) (x := 4) rfl)
theorem dX4_set_149 : decode cX4_set 149 = .ok (.iconst 2, 1) := dk_5 (dq_lk dX4_set_v9 (r := 5) (x := 5) rfl)
theorem dX4_set_150 : decode cX4_set 150 = .ok (.iaload, 1) := dk_46 (dq_lk dX4_set_v9 (r := 6) (x := 46) rfl)
theorem dX4_set_151 : decode cX4_set 151 = .ok (.invokevirtual 174, 3) := dk_182 (dq_lk dX4_set_v9 (r := 7) (x := 182) rfl) (dq_lk dX4_set_v9 (r := 8) (x := 0) rfl) (dq_lk dX4_set_v9 (r := 9) (x := 174) rfl)
theorem dX4_set_154 : decode cX4_set 154 = .ok (.goto 7, 3) := dk_167 (dq_lk dX4_set_v9 (r := 10) (x := 167) rfl) (dq_lk dX4_set_v9 (r := 11) (x := 0) rfl) (dq_lk dX4_set_v9 (r := 12) (x := 7) rfl) (by decide +kernel)
theorem dX4_set_157 : decode cX4_set 157 = .ok (.aload_n 0, 1) := dk_42 (dq_lk dX4_set_v9 (r := 13) (x := 42) rfl)
theorem dX4_set_158 : decode cX4_set 158 = .ok (.invokevirtual 80, 3) := dk_182 (dq_lk dX4_set_v9 (r := 14) (x := 182) rfl) (dq_lk dX4_set_v9 (r := 15) (x := 0) rfl) (dq_lk dX4_set_v10 (r := 0) (x := 80) rfl)
theorem dX4_set_161 : decode cX4_set 161 = .ok (.ireturn, 1) := dk_172 (dq_lk dX4_set_v10 (r := 1) (x := 172) rfl)
theorem dX4_set_162 : decode cX4_set 162 = .ok (.aload 4, 2) := dk_25 (dq_lk dX4_set_v10 (r := 2) (x := 25) rfl) (dq_lk dX4_set_v10 (r := 3) (x := 4) rfl)
theorem dX4_set_164 : decode cX4_set 164 = .ok (.iconst 0, 1) := dk_3 (dq_lk dX4_set_v10 (r := 4) (x := 3) rfl)
theorem dX4_set_165 : decode cX4_set 165 = .ok (.iaload, 1) := dk_46 (dq_lk dX4_set_v10 (r := 5) (x := 46) rfl)
theorem dX4_set_166 : decode cX4_set 166 = .ok (.aload 4, 2) := dk_25 (dq_lk dX4_set_v10 (r := 6) (x := 25) rfl) (dq_lk dX4_set_v10 (r := 7) (x := 4) rfl)
theorem dX4_set_168 : decode cX4_set 168 = .ok (.iconst 1, 1) := dk_4 (dq_lk dX4_set_v10 (r := 8) (x := 4) rfl)
theorem dX4_set_169 : decode cX4_set 169 = .ok (.iaload, 1) := dk_46 (dq_lk dX4_set_v10 (r := 9) (x := 46) rfl)
theorem dX4_set_170 : decode cX4_set 170 = .ok (.iload_n 3, 1) := dk_29 (dq_lk dX4_set_v10 (r := 10) (x := 29) rfl)
theorem dX4_set_171 : decode cX4_set 171 = .ok (.invokestatic 159, 3) := dk_184 (dq_lk dX4_set_v10 (r := 11) (x := 184) rfl) (dq_lk dX4_set_v10 (r := 12) (x := 0) rfl) (dq_lk dX4_set_v10 (r := 13) (x := 159) rfl)
theorem dX4_set_174 : decode cX4_set 174 = .ok (.ifCond .eq 20, 3) := dk_153 (dq_lk dX4_set_v10 (r := 14) (x := 153) rfl) (dq_lk dX4_set_v10 (r := 15) (x := 0) rfl) (dq_lk dX4_set_v11 (r := 0) (x := 20) rfl) (by decide +kernel)
theorem dX4_set_177 : decode cX4_set 177 = .ok (.aload_n 0, 1) := dk_42 (dq_lk dX4_set_v11 (r := 1) (x := 42) rfl)
theorem dX4_set_178 : decode cX4_set 178 = .ok (.iload_n 1, 1) := dk_27 (dq_lk dX4_set_v11 (r := 2) (x := 27) rfl)
theorem dX4_set_179 : decode cX4_set 179 = .ok (.aload 4, 2) := dk_25 (dq_lk dX4_set_v11 (r := 3) (x := 25) rfl) (dq_lk dX4_set_v11 (r := 4) (x := 4) rfl)
theorem dX4_set_181 : decode cX4_set 181 = .ok (.iconst 0, 1) := dk_3 (dq_lk dX4_set_v11 (r := 5) (x := 3) rfl)
theorem dX4_set_182 : decode cX4_set 182 = .ok (.iaload, 1) := dk_46 (dq_lk dX4_set_v11 (r := 6) (x := 46) rfl)
theorem dX4_set_183 : decode cX4_set 183 = .ok (.aload 4, 2) := dk_25 (dq_lk dX4_set_v11 (r := 7) (x := 25) rfl) (dq_lk dX4_set_v11 (r := 8) (x := 4) rfl)
theorem dX4_set_185 : decode cX4_set 185 = .ok (.iconst 1, 1) := dk_4 (dq_lk dX4_set_v11 (r := 9) (x := 4) rfl)
theorem dX4_set_186 : decode cX4_set 186 = .ok (.iaload, 1) := dk_46 (dq_lk dX4_set_v11 (r := 10) (x := 46) rfl)
theorem dX4_set_187 : decode cX4_set 187 = .ok (.iload_n 3, 1) := dk_29 (dq_lk dX4_set_v11 (r := 11) (x := 29) rfl)
theorem dX4_set_188 : decode cX4_set 188 = .ok (.invokevirtual 174, 3) := dk_182 (dq_lk dX4_set_v11 (r := 12) (x := 182) rfl) (dq_lk dX4_set_v11 (r := 13) (x := 0) rfl) (dq_lk dX4_set_v11 (r := 14) (x := 174) rfl)
theorem dX4_set_191 : decode cX4_set 191 = .ok (.goto 7, 3) := dk_167 (dq_lk dX4_set_v11 (r := 15) (x := 167) rfl) (dq_lk dX4_set_v12 (r := 0) (x := 0) rfl) (dq_lk dX4_set_v12 (r := 1) (x := 7) rfl) (by decide +kernel)
theorem dX4_set_194 : decode cX4_set 194 = .ok (.aload_n 0, 1) := dk_42 (dq_lk dX4_set_v12 (r := 2) (x := 42) rfl)
theorem dX4_set_195 : decode cX4_set 195 = .ok (.invokevirtual 80, 3) := dk_182 (dq_lk dX4_set_v12 (r := 3) (x := 182) rfl) (dq_lk dX4_set_v12 (r := 4) (x := 0) rfl) (dq_lk dX4_set_v12 (r := 5) (x := 80) rfl)
theorem dX4_set_198 : decode cX4_set 198 = .ok (.ireturn, 1) := dk_172 (dq_lk dX4_set_v12 (r := 6) (x := 172) rfl)
theorem dX4_set_199 : decode cX4_set 199 = .ok (.iload_n 3, 1) := dk_29 (dq_lk dX4_set_v12 (r := 7) (x := 29) rfl)
theorem dX4_set_200 : decode cX4_set 200 = .ok (.i2l, 1) := dk_133 (dq_lk dX4_set_v12 (r := 8) (x := 133) rfl)
theorem dX4_set_201 : decode cX4_set 201 = .ok (.lconst 1, 1) := dk_10 (dq_lk dX4_set_v12 (r := 9) (x := 10) rfl)
theorem dX4_set_202 : decode cX4_set 202 = .ok (.aload 4, 2) := dk_25 (dq_lk dX4_set_v12 (r := 10) (x := 25) rfl) (dq_lk dX4_set_v12 (r := 11) (x := 4) rfl)
theorem dX4_set_204 : decode cX4_set 204 = .ok (.iconst 0, 1) := dk_3 (dq_lk dX4_set_v12 (r := 12) (x := 3) rfl)
theorem dX4_set_205 : decode cX4_set 205 = .ok (.iaload, 1) := dk_46 (dq_lk dX4_set_v12 (r := 13) (x := 46) rfl)
theorem dX4_set_206 : decode cX4_set 206 = .ok (.invokestatic 48, 3) := dk_184 (dq_lk dX4_set_v12 (r := 14) (x := 184) rfl) (dq_lk dX4_set_v12 (r := 15) (x := 0) rfl) (dq_lk dX4_set_v13 (r := 0) (x := 48) rfl)
theorem dX4_set_209 : decode cX4_set 209 = .ok (.i2l, 1) := dk_133 (dq_lk dX4_set_v13 (r := 1) (x := 133) rfl)
theorem dX4_set_210 : decode cX4_set 210 = .ok (.invokestatic 38, 3) := dk_184 (dq_lk dX4_set_v13 (r := 2) (x := 184) rfl) (dq_lk dX4_set_v13 (r := 3) (x := 0) rfl) (dq_lk dX4_set_v13 (r := 4) (x := 38) rfl)
theorem dX4_set_213 : decode cX4_set 213 = .ok (.ifCond .ne 8, 3) := dk_154 (dq_lk dX4_set_v13 (r := 5) (x := 154) rfl) (dq_lk dX4_set_v13 (r := 6) (x := 0) rfl) (dq_lk dX4_set_v13 (r := 7) (x := 8) rfl) (by decide +kernel)
theorem dX4_set_216 : decode cX4_set 216 = .ok (.aload_n 0, 1) := dk_42 (dq_lk dX4_set_v13 (r := 8) (x := 42) rfl)
theorem dX4_set_217 : decode cX4_set 217 = .ok (.invokevirtual 80, 3) := dk_182 (dq_lk dX4_set_v13 (r := 9) (x := 182) rfl) (dq_lk dX4_set_v13 (r := 10) (x := 0) rfl) (dq_lk dX4_set_v13 (r := 11) (x := 80) rfl)
theorem dX4_set_220 : decode cX4_set 220 = .ok (.ireturn, 1) := dk_172 (dq_lk dX4_set_v13 (r := 12) (x := 172) rfl)
theorem dX4_set_221 : decode cX4_set 221 = .ok (.aload_n 0, 1) := dk_42 (dq_lk dX4_set_v13 (r := 13) (x := 42) rfl)
theorem dX4_set_222 : decode cX4_set 222 = .ok (.getfield 17, 3) := dk_180 (dq_lk dX4_set_v13 (r := 14) (x := 180) rfl) (dq_lk dX4_set_v13 (r := 15) (x := 0) rfl) (dq_lk dX4_set_v14 (r := 0) (x := 17) rfl)
theorem dX4_set_225 : decode cX4_set 225 = .ok (.iload_n 1, 1) := dk_27 (dq_lk dX4_set_v14 (r := 1) (x := 27) rfl)
theorem dX4_set_226 : decode cX4_set 226 = .ok (.aload 4, 2) := dk_25 (dq_lk dX4_set_v14 (r := 2) (x := 25) rfl) (dq_lk dX4_set_v14 (r := 3) (x := 4) rfl)
theorem dX4_set_228 : decode cX4_set 228 = .ok (.iconst 0, 1) := dk_3 (dq_lk dX4_set_v14 (r := 4) (x := 3) rfl)
theorem dX4_set_229 : decode cX4_set 229 = .ok (.iaload, 1) := dk_46 (dq_lk dX4_set_v14 (r := 5) (x := 46) rfl)
theorem dX4_set_230 : decode cX4_set 230 = .ok (.invokestatic 52, 3) := dk_184 (dq_lk dX4_set_v14 (r := 6) (x := 184) rfl) (dq_lk dX4_set_v14 (r := 7) (x := 0) rfl) (dq_lk dX4_set_v14 (r := 8) (x := 52) rfl)
theorem dX4_set_233 : decode cX4_set 233 = .ok (.iload_n 3, 1) := dk_29 (dq_lk dX4_set_v14 (r := 9) (x := 29) rfl)
theorem dX4_set_234 : decode cX4_set 234 = .ok (.iadd, 1) := dk_96 (dq_lk dX4_set_v14 (r := 10) (x := 96) rfl)
theorem dX4_set_235 : decode cX4_set 235 = .ok (.iconst 1, 1) := dk_4 (dq_lk dX4_set_v14 (r := 11) (x := 4) rfl)
theorem dX4_set_236 : decode cX4_set 236 = .ok (.isub, 1) := dk_100 (dq_lk dX4_set_v14 (r := 12) (x := 100) rfl)
theorem dX4_set_237 : decode cX4_set 237 = .ok (.iastore, 1) := dk_79 (dq_lk dX4_set_v14 (r := 13) (x := 79) rfl)
theorem dX4_set_238 : decode cX4_set 238 = .ok (.aload_n 0, 1) := dk_42 (dq_lk dX4_set_v14 (r := 14) (x := 42) rfl)
theorem dX4_set_239 : decode cX4_set 239 = .ok (.getfield 17, 3) := dk_180 (dq_lk dX4_set_v14 (r := 15) (x := 180) rfl) (dq_lk dX4_set_v15 (r := 0) (x := 0) rfl) (dq_lk dX4_set_v15 (r := 1) (x := 17) rfl)
theorem dX4_set_242 : decode cX4_set 242 = .ok (.iload_n 1, 1) := dk_27 (dq_lk dX4_set_v15 (r := 2) (x := 27) rfl)
theorem dX4_set_243 : decode cX4_set 243 = .ok (.iaload, 1) := dk_46 (dq_lk dX4_set_v15 (r := 3) (x := 46) rfl)
theorem dX4_set_244 : decode cX4_set 244 = .ok (.ireturn, 1) := dk_172 (dq_lk dX4_set_v15 (r := 4) (x := 172) rfl)
theorem dX4_set_245 : decode cX4_set 245 = .ok (.iload_n 3, 1) := dk_29 (dq_lk dX4_set_v15 (r := 5) (x := 29) rfl)
theorem dX4_set_246 : decode cX4_set 246 = .ok (.i2l, 1) := dk_133 (dq_lk dX4_set_v15 (r := 6) (x := 133) rfl)
theorem dX4_set_247 : decode cX4_set 247 = .ok (.lconst 0, 1) := dk_9 (dq_lk dX4_set_v15 (r := 7) (x := 9) rfl)
theorem dX4_set_248 : decode cX4_set 248 = .ok (.ldc2_w 191, 3) := dk_20 (dq_lk dX4_set_v15 (r := 8) (x := 20) rfl) (dq_lk dX4_set_v15 (r := 9) (x := 0) rfl) (dq_lk dX4_set_v15 (r := 10) (x := 191) rfl)
theorem dX4_set_251 : decode cX4_set 251 = .ok (.invokestatic 38, 3) := dk_184 (dq_lk dX4_set_v15 (r := 11) (x := 184) rfl) (dq_lk dX4_set_v15 (r := 12) (x := 0) rfl) (dq_lk dX4_set_v15 (r := 13) (x := 38) rfl)
theorem dX4_set_254 : decode cX4_set 254 = .ok (.ifCond .eq 41, 3) := dk_153 (dq_lk dX4_set_v15 (r := 14) (x := 153) rfl) (dq_lk dX4_set_v15 (r := 15) (x := 0) rfl) (dq_lk dX4_set_v16 (r := 0) (x := 41) rfl) (by decide +kernel)
theorem dX4_set_257 : decode cX4_set 257 = .ok (.aload_n 0, 1) := dk_42 (dq_lk dX4_set_v16 (r := 1) (x := 42) rfl)
theorem dX4_set_258 : decode cX4_set 258 = .ok (.iload_n 1, 1) := dk_27 (dq_lk dX4_set_v16 (r := 2) (x := 27) rfl)
theorem dX4_set_259 : decode cX4_set 259 = .ok (.aload_n 0, 1) := dk_42 (dq_lk dX4_set_v16 (r := 3) (x := 42) rfl)
theorem dX4_set_260 : decode cX4_set 260 = .ok (.getfield 17, 3) := dk_180 (dq_lk dX4_set_v16 (r := 4) (x := 180) rfl) (dq_lk dX4_set_v16 (r := 5) (x := 0) rfl) (dq_lk dX4_set_v16 (r := 6) (x := 17) rfl)
theorem dX4_set_263 : decode cX4_set 263 = .ok (.iload_n 1, 1) := dk_27 (dq_lk dX4_set_v16 (r := 7) (x := 27) rfl)
theorem dX4_set_264 : decode cX4_set 264 = .ok (.iaload, 1) := dk_46 (dq_lk dX4_set_v16 (r := 8) (x := 46) rfl)
theorem dX4_set_265 : decode cX4_set 265 = .ok (.sipush 3600, 3) := dk_17 (dq_lk dX4_set_v16 (r := 9) (x := 17) rfl) (dq_lk dX4_set_v16 (r := 10) (x := 14) rfl) (dq_lk dX4_set_v16 (r := 11) (x := 16) rfl) (by decide +kernel)
theorem dX4_set_268 : decode cX4_set 268 = .ok (.iload_n 3, 1) := dk_29 (dq_lk dX4_set_v16 (r := 12) (x := 29) rfl)
theorem dX4_set_269 : decode cX4_set 269 = .ok (.imul, 1) := dk_104 (dq_lk dX4_set_v16 (r := 13) (x := 104) rfl)
theorem dX4_set_270 : decode cX4_set 270 = .ok (.iload 5, 2) := dk_21 (dq_lk dX4_set_v16 (r := 14) (x := 21) rfl) (dq_lk dX4_set_v16 (r := 15) (x := 5) rfl)
theorem dX4_set_272 : decode cX4_set 272 = .ok (.sipush 3600, 3) := dk_17 (dq_lk dX4_set_v17 (r := 0) (x := 17) rfl) (dq_lk dX4_set_v17 (r := 1) (x := 14) rfl) (dq_lk dX4_set_v17 (r := 2) (x := 16) rfl) (by decide +kernel)
theorem dX4_set_275 : decode cX4_set 275 = .ok (.irem, 1) := dk_112 (dq_lk dX4_set_v17 (r := 3) (x := 112) rfl)
theorem dX4_set_276 : decode cX4_set 276 = .ok (.iadd, 1) := dk_96 (dq_lk dX4_set_v17 (r := 4) (x := 96) rfl)
theorem dX4_set_277 : decode cX4_set 277 = .ok (.aload_n 0, 1) := dk_42 (dq_lk dX4_set_v17 (r := 5) (x := 42) rfl)
theorem dX4_set_278 : decode cX4_set 278 = .ok (.getfield 23, 3) := dk_180 (dq_lk dX4_set_v17 (r := 6) (x := 180) rfl) (dq_lk dX4_set_v17 (r := 7) (x := 0) rfl) (dq_lk dX4_set_v17 (r := 8) (x := 23) rfl)
theorem dX4_set_281 : decode cX4_set 281 = .ok (.iload_n 1, 1) := dk_27 (dq_lk dX4_set_v17 (r := 9) (x := 27) rfl)
theorem dX4_set_282 : decode cX4_set 282 = .ok (.iaload, 1) := dk_46 (dq_lk dX4_set_v17 (r := 10) (x := 46) rfl)
theorem dX4_set_283 : decode cX4_set 283 = .ok (.aload_n 0, 1) := dk_42 (dq_lk dX4_set_v17 (r := 11) (x := 42) rfl)
theorem dX4_set_284 : decode cX4_set 284 = .ok (.getfield 26, 3) := dk_180 (dq_lk dX4_set_v17 (r := 12) (x := 180) rfl) (dq_lk dX4_set_v17 (r := 13) (x := 0) rfl) (dq_lk dX4_set_v17 (r := 14) (x := 26) rfl)
theorem dX4_set_287 : decode cX4_set 287 = .ok (.iload_n 1, 1) := dk_27 (dq_lk dX4_set_v17 (r := 15) (x := 27) rfl)
theorem dX4_set_288 : decode cX4_set 288 = .ok (.iaload, 1) := dk_46 (dq_lk dX4_set_v18 (r := 0) (x := 46) rfl)
theorem dX4_set_289 : decode cX4_set 289 = .ok (.invokevirtual 139, 3) := dk_182 (dq_lk dX4_set_v18 (r := 1) (x := 182) rfl) (dq_lk dX4_set_v18 (r := 2) (x := 0) rfl) (dq_lk dX4_set_v18 (r := 3) (x := 139) rfl)
theorem dX4_set_292 : decode cX4_set 292 = .ok (.goto 7, 3) := dk_167 (dq_lk dX4_set_v18 (r := 4) (x := 167) rfl) (dq_lk dX4_set_v18 (r := 5) (x := 0) rfl) (dq_lk dX4_set_v18 (r := 6) (x := 7) rfl) (by decide +kernel)
theorem dX4_set_295 : decode cX4_set 295 = .ok (.aload_n 0, 1) := dk_42 (dq_lk dX4_set_v18 (r := 7) (x := 42) rfl)
theorem dX4_set_296 : decode cX4_set 296 = .ok (.invokevirtual 80, 3) := dk_182 (dq_lk dX4_set_v18 (r := 8) (x := 182) rfl) (dq_lk dX4_set_v18 (r := 9) (x := 0) rfl) (dq_lk dX4_set_v18 (r := 10) (x := 80) rfl)
theorem dX4_set_299 : decode cX4_set 299 = .ok (.ireturn, 1) := dk_172 (dq_lk dX4_set_v18 (r := 11) (x := 172) rfl)
theorem dX4_set_300 : decode cX4_set 300 = .ok (.iload_n 3, 1) := dk_29 (dq_lk dX4_set_v18 (r := 12) (x := 29) rfl)
theorem dX4_set_301 : decode cX4_set 301 = .ok (.i2l, 1) := dk_133 (dq_lk dX4_set_v18 (r := 13) (x := 133) rfl)
theorem dX4_set_302 : decode cX4_set 302 = .ok (.lconst 0, 1) := dk_9 (dq_lk dX4_set_v18 (r := 14) (x := 9) rfl)
theorem dX4_set_303 : decode cX4_set 303 = .ok (.ldc2_w 78, 3) := dk_20 (dq_lk dX4_set_v18 (r := 15) (x := 20) rfl) (dq_lk dX4_set_v19 (r := 0) (x := 0) rfl) (dq_lk dX4_set_v19 (r := 1) (x := 78) rfl)
theorem dX4_set_306 : decode cX4_set 306 = .ok (.invokestatic 38, 3) := dk_184 (dq_lk dX4_set_v19 (r := 2) (x := 184) rfl) (dq_lk dX4_set_v19 (r := 3) (x := 0) rfl) (dq_lk dX4_set_v19 (r := 4) (x := 38) rfl)
theorem dX4_set_309 : decode cX4_set 309 = .ok (.ifCond .eq 50, 3) := dk_153 (dq_lk dX4_set_v19 (r := 5) (x := 153) rfl) (dq_lk dX4_set_v19 (r := 6) (x := 0) rfl) (dq_lk dX4_set_v19 (r := 7) (x := 50) rfl) (by decide +kernel)
theorem dX4_set_312 : decode cX4_set 312 = .ok (.aload_n 0, 1) := dk_42 (dq_lk dX4_set_v19 (r := 8) (x := 42) rfl)
theorem dX4_set_313 : decode cX4_set 313 = .ok (.iload_n 1, 1) := dk_27 (dq_lk dX4_set_v19 (r := 9) (x := 27) rfl)
theorem dX4_set_314 : decode cX4_set 314 = .ok (.aload_n 0, 1) := dk_42 (dq_lk dX4_set_v19 (r := 10) (x := 42) rfl)
theorem dX4_set_315 : decode cX4_set 315 = .ok (.getfield 17, 3) := dk_180 (dq_lk dX4_set_v19 (r := 11) (x := 180) rfl) (dq_lk dX4_set_v19 (r := 12) (x := 0) rfl) (dq_lk dX4_set_v19 (r := 13) (x := 17) rfl)
theorem dX4_set_318 : decode cX4_set 318 = .ok (.iload_n 1, 1) := dk_27 (dq_lk dX4_set_v19 (r := 14) (x := 27) rfl)
theorem dX4_set_319 : decode cX4_set 319 = .ok (.iaload, 1) := dk_46 (dq_lk dX4_set_v19 (r := 15) (x := 46) rfl)
theorem dX4_set_320 : decode cX4_set 320 = .ok (.iload 5, 2) := dk_21 (dq_lk dX4_set_v20 (r := 0) (x := 21) rfl) (dq_lk dX4_set_v20 (r := 1) (x := 5) rfl)
theorem dX4_set_322 : decode cX4_set 322 = .ok (.sipush 3600, 3) := dk_17 (dq_lk dX4_set_v20 (r := 2) (x := 17) rfl) (dq_lk dX4_set_v20 (r := 3) (x := 14) rfl) (dq_lk dX4_set_v20 (r := 4) (x := 16) rfl) (by decide +kernel)
theorem dX4_set_325 : decode cX4_set 325 = .ok (.idiv, 1) := dk_108 (dq_lk dX4_set_v20 (r := 5) (x := 108) rfl)
theorem dX4_set_326 : decode cX4_set 326 = .ok (.sipush 3600, 3) := dk_17 (dq_lk dX4_set_v20 (r := 6) (x := 17) rfl) (dq_lk dX4_set_v20 (r := 7) (x := 14) rfl) (dq_lk dX4_set_v20 (r := 8) (x := 16) rfl) (by decide +kernel)
theorem dX4_set_329 : decode cX4_set 329 = .ok (.imul, 1) := dk_104 (dq_lk dX4_set_v20 (r := 9) (x := 104) rfl)
theorem dX4_set_330 : decode cX4_set 330 = .ok (.bipush 60, 2) := dk_16 (dq_lk dX4_set_v20 (r := 10) (x := 16) rfl) (dq_lk dX4_set_v20 (r := 11) (x := 60) rfl) (by decide +kernel)
theorem dX4_set_332 : decode cX4_set 332 = .ok (.iload_n 3, 1) := dk_29 (dq_lk dX4_set_v20 (r := 12) (x := 29) rfl)
theorem dX4_set_333 : decode cX4_set 333 = .ok (.imul, 1) := dk_104 (dq_lk dX4_set_v20 (r := 13) (x := 104) rfl)
theorem dX4_set_334 : decode cX4_set 334 = .ok (.iadd, 1) := dk_96 (dq_lk dX4_set_v20 (r := 14) (x := 96) rfl)
theorem dX4_set_335 : decode cX4_set 335 = .ok (.iload 5, 2) := dk_21 (dq_lk dX4_set_v20 (r := 15) (x := 21) rfl) (dq_lk dX4_set_v21 (r := 0) (x := 5) rfl)
theorem dX4_set_337 : decode cX4_set 337 = .ok (.bipush 60, 2) := dk_16 (dq_lk dX4_set_v21 (r := 1) (x := 16) rfl) (dq_lk dX4_set_v21 (r := 2) (x := 60) rfl) (by decide +kernel)
theorem dX4_set_339 : decode cX4_set 339 = .ok (.irem, 1) := dk_112 (dq_lk dX4_set_v21 (r := 3) (x := 112) rfl)
theorem dX4_set_340 : decode cX4_set 340 = .ok (.iadd, 1) := dk_96 (dq_lk dX4_set_v21 (r := 4) (x := 96) rfl)
theorem dX4_set_341 : decode cX4_set 341 = .ok (.aload_n 0, 1) := dk_42 (dq_lk dX4_set_v21 (r := 5) (x := 42) rfl)
theorem dX4_set_342 : decode cX4_set 342 = .ok (.getfield 23, 3) := dk_180 (dq_lk dX4_set_v21 (r := 6) (x := 180) rfl) (dq_lk dX4_set_v21 (r := 7) (x := 0) rfl) (dq_lk dX4_set_v21 (r := 8) (x := 23) rfl)
theorem dX4_set_345 : decode cX4_set 345 = .ok (.iload_n 1, 1) := dk_27 (dq_lk dX4_set_v21 (r := 9) (x := 27) rfl)
theorem dX4_set_346 : decode cX4_set 346 = .ok (.iaload, 1) := dk_46 (dq_lk dX4_set_v21 (r := 10) (x := 46) rfl)
theorem dX4_set_347 : decode cX4_set 347 = .ok (.aload_n 0, 1) := dk_42 (dq_lk dX4_set_v21 (r := 11) (x := 42) rfl)
theorem dX4_set_348 : decode cX4_set 348 = .ok (.getfield 26, 3) := dk_180 (dq_lk dX4_set_v21 (r := 12) (x := 180) rfl) (dq_lk dX4_set_v21 (r := 13) (x := 0) rfl) (dq_lk dX4_set_v21 (r := 14) (x := 26) rfl)
theorem dX4_set_351 : decode cX4_set 351 = .ok (.iload_n 1, 1) := dk_27 (dq_lk dX4_set_v21 (r := 15) (x := 27) rfl)
theorem dX4_set_352 : decode cX4_set 352 = .ok (.iaload, 1) := dk_46 (dq_lk dX4_set_v22 (r := 0) (x := 46) rfl)
theorem dX4_set_353 : decode cX4_set 353 = .ok (.invokevirtual 139, 3) := dk_182 (dq_lk dX4_set_v22 (r := 1) (x := 182) rfl) (dq_lk dX4_set_v22 (r := 2) (x := 0) rfl) (dq_lk dX4_set_v22 (r := 3) (x := 139) rfl)
theorem dX4_set_356 : decode cX4_set 356 = .ok (.goto 7, 3) := dk_167 (dq_lk dX4_set_v22 (r := 4) (x := 167) rfl) (dq_lk dX4_set_v22 (r := 5) (x := 0) rfl) (dq_lk dX4_set_v22 (r := 6) (x := 7) rfl) (by decide +kernel)
theorem dX4_set_359 : decode cX4_set 359 = .ok (.aload_n 0, 1) := dk_42 (dq_lk dX4_set_v22 (r := 7) (x := 42) rfl)
theorem dX4_set_360 : decode cX4_set 360 = .ok (.invokevirtual 80, 3) := dk_182 (dq_lk dX4_set_v22 (r := 8) (x := 182) rfl) (dq_lk dX4_set_v22 (r := 9) (x := 0) rfl) (dq_lk dX4_set_v22 (r := 10) (x := 80) rfl)
theorem dX4_set_363 : decode cX4_set 363 = .ok (.ireturn, 1) := dk_172 (dq_lk dX4_set_v22 (r := 11) (x := 172) rfl)
theorem dX4_set_364 : decode cX4_set 364 = .ok (.iload_n 3, 1) := dk_29 (dq_lk dX4_set_v22 (r := 12) (x := 29) rfl)
theorem dX4_set_365 : decode cX4_set 365 = .ok (.i2l, 1) := dk_133 (dq_lk dX4_set_v22 (r := 13) (x := 133) rfl)
theorem dX4_set_366 : decode cX4_set 366 = .ok (.lconst 0, 1) := dk_9 (dq_lk dX4_set_v22 (r := 14) (x := 9) rfl)
theorem dX4_set_367 : decode cX4_set 367 = .ok (.ldc2_w 78, 3) := dk_20 (dq_lk dX4_set_v22 (r := 15) (x := 20) rfl) (dq_lk dX4_set_v23 (r := 0) (x := 0) rfl) (dq_lk dX4_set_v23 (r := 1) (x := 78) rfl)
theorem dX4_set_370 : decode cX4_set 370 = .ok (.invokestatic 38, 3) := dk_184 (dq_lk dX4_set_v23 (r := 2) (x := 184) rfl) (dq_lk dX4_set_v23 (r := 3) (x := 0) rfl) (dq_lk dX4_set_v23 (r := 4) (x := 38) rfl)
theorem dX4_set_373 : decode cX4_set 373 = .ok (.ifCond .eq 39, 3) := dk_153 (dq_lk dX4_set_v23 (r := 5) (x := 153) rfl) (dq_lk dX4_set_v23 (r := 6) (x := 0) rfl) (dq_lk dX4_set_v23 (r := 7) (x := 39) rfl) (by decide +kernel)
theorem dX4_set_376 : decode cX4_set 376 = .ok (.aload_n 0, 1) := dk_42 (dq_lk dX4_set_v23 (r := 8) (x := 42) rfl)
theorem dX4_set_377 : decode cX4_set 377 = .ok (.iload_n 1, 1) := dk_27 (dq_lk dX4_set_v23 (r := 9) (x := 27) rfl)
theorem dX4_set_378 : decode cX4_set 378 = .ok (.aload_n 0, 1) := dk_42 (dq_lk dX4_set_v23 (r := 10) (x := 42) rfl)
theorem dX4_set_379 : decode cX4_set 379 = .ok (.getfield 17, 3) := dk_180 (dq_lk dX4_set_v23 (r := 11) (x := 180) rfl) (dq_lk dX4_set_v23 (r := 12) (x := 0) rfl) (dq_lk dX4_set_v23 (r := 13) (x := 17) rfl)
theorem dX4_set_382 : decode cX4_set 382 = .ok (.iload_n 1, 1) := dk_27 (dq_lk dX4_set_v23 (r := 14) (x := 27) rfl)
theorem dX4_set_383 : decode cX4_set 383 = .ok (.iaload, 1) := dk_46 (dq_lk dX4_set_v23 (r := 15) (x := 46) rfl)
theorem dX4_set_384 : decode cX4_set 384 = .ok (.iload 5, 2) := dk_21 (dq_lk dX4_set_v24 (r := 0) (x := 21) rfl) (dq_lk dX4_set_v24 (r := 1) (x := 5) rfl)
theorem dX4_set_386 : decode cX4_set 386 = .ok (.bipush 60, 2) := dk_16 (dq_lk dX4_set_v24 (r := 2) (x := 16) rfl) (dq_lk dX4_set_v24 (r := 3) (x := 60) rfl) (by decide +kernel)
theorem dX4_set_388 : decode cX4_set 388 = .ok (.idiv, 1) := dk_108 (dq_lk dX4_set_v24 (r := 4) (x := 108) rfl)
theorem dX4_set_389 : decode cX4_set 389 = .ok (.bipush 60, 2) := dk_16 (dq_lk dX4_set_v24 (r := 5) (x := 16) rfl) (dq_lk dX4_set_v24 (r := 6) (x := 60) rfl) (by decide +kernel)
theorem dX4_set_391 : decode cX4_set 391 = .ok (.imul, 1) := dk_104 (dq_lk dX4_set_v24 (r := 7) (x := 104) rfl)
theorem dX4_set_392 : decode cX4_set 392 = .ok (.iload_n 3, 1) := dk_29 (dq_lk dX4_set_v24 (r := 8) (x := 29) rfl)
theorem dX4_set_393 : decode cX4_set 393 = .ok (.iadd, 1) := dk_96 (dq_lk dX4_set_v24 (r := 9) (x := 96) rfl)
theorem dX4_set_394 : decode cX4_set 394 = .ok (.aload_n 0, 1) := dk_42 (dq_lk dX4_set_v24 (r := 10) (x := 42) rfl)
theorem dX4_set_395 : decode cX4_set 395 = .ok (.getfield 23, 3) := dk_180 (dq_lk dX4_set_v24 (r := 11) (x := 180) rfl) (dq_lk dX4_set_v24 (r := 12) (x := 0) rfl) (dq_lk dX4_set_v24 (r := 13) (x := 23) rfl)
theorem dX4_set_398 : decode cX4_set 398 = .ok (.iload_n 1, 1) := dk_27 (dq_lk dX4_set_v24 (r := 14) (x := 27) rfl)
theorem dX4_set_399 : decode cX4_set 399 = .ok (.iaload, 1) := dk_46 (dq_lk dX4_set_v24 (r := 15) (x := 46) rfl)
theorem dX4_set_400 : decode cX4_set 400 = .ok (.aload_n 0, 1) := dk_42 (dq_lk dX4_set_v25 (r := 0) (x := 42) rfl)
theorem dX4_set_401 : decode cX4_set 401 = .ok (.getfield 26, 3) := dk_180 (dq_lk dX4_set_v25 (r := 1) (x := 180) rfl) (dq_lk dX4_set_v25 (r := 2) (x := 0) rfl) (dq_lk dX4_set_v25 (r := 3) (x := 26) rfl)
theorem dX4_set_404 : decode cX4_set 404 = .ok (.iload_n 1, 1) := dk_27 (dq_lk dX4_set_v25 (r := 4) (x := 27) rfl)
theorem dX4_set_405 : decode cX4_set 405 = .ok (.iaload, 1) := dk_46 (dq_lk dX4_set_v25 (r := 5) (x := 46) rfl)
theorem dX4_set_406 : decode cX4_set 406 = .ok (.invokevirtual 139, 3) := dk_182 (dq_lk dX4_set_v25 (r := 6) (x := 182) rfl) (dq_lk dX4_set_v25 (r := 7) (x := 0) rfl) (dq_lk dX4_set_v25 (r := 8) (x := 139) rfl)
theorem dX4_set_409 : decode cX4_set 409 = .ok (.goto 7, 3) := dk_167 (dq_lk dX4_set_v25 (r := 9) (x := 167) rfl) (dq_lk dX4_set_v25 (r := 10) (x := 0) rfl) (dq_lk dX4_set_v25 (r := 11) (x := 7) rfl) (by decide +kernel)
theorem dX4_set_412 : decode cX4_set 412 = .ok (.aload_n 0, 1) := dk_42 (dq_lk dX4_set_v25 (r := 12) (x := 42) rfl)
theorem dX4_set_413 : decode cX4_set 413 = .ok (.invokevirtual 80, 3) := dk_182 (dq_lk dX4_set_v25 (r := 13) (x := 182) rfl) (dq_lk dX4_set_v25 (r := 14) (x := 0) rfl) (dq_lk dX4_set_v25 (r := 15) (x := 80) rfl)
theorem dX4_set_416 : decode cX4_set 416 = .ok (.ireturn, 1) := dk_172 (dq_lk dX4_set_v26 (r := 0) (x := 172) rfl)
theorem dX4_set_417 : decode cX4_set 417 = .ok (.iload_n 3, 1) := dk_29 (dq_lk dX4_set_v26 (r := 1) (x := 29) rfl)
theorem dX4_set_418 : decode cX4_set 418 = .ok (.i2l, 1) := dk_133 (dq_lk dX4_set_v26 (r := 2) (x := 133) rfl)
theorem dX4_set_419 : decode cX4_set 419 = .ok (.lconst 0, 1) := dk_9 (dq_lk dX4_set_v26 (r := 3) (x := 9) rfl)
theorem dX4_set_420 : decode cX4_set 420 = .ok (.ldc2_w 145, 3) := dk_20 (dq_lk dX4_set_v26 (r := 4) (x := 20) rfl) (dq_lk dX4_set_v26 (r := 5) (x := 0) rfl) (dq_lk dX4_set_v26 (r := 6) (x := 145) rfl)
theorem dX4_set_423 : decode cX4_set 423 = .ok (.invokestatic 38, 3) := dk_184 (dq_lk dX4_set_v26 (r := 7) (x := 184) rfl) (dq_lk dX4_set_v26 (r := 8) (x := 0) rfl) (dq_lk dX4_set_v26 (r := 9) (x := 38) rfl)
theorem dX4_set_426 : decode cX4_set 426 = .ok (.ifCond .eq 26, 3) := dk_153 (dq_lk dX4_set_v26 (r := 10) (x := 153) rfl) (dq_lk dX4_set_v26 (r := 11) (x := 0) rfl) (dq_lk dX4_set_v26 (r := 12) (x := 26) rfl) (by decide +kernel)
theorem dX4_set_429 : decode cX4_set 429 = .ok (.aload_n 0, 1) := dk_42 (dq_lk dX4_set_v26 (r := 13) (x := 42) rfl)
theorem dX4_set_430 : decode cX4_set 430 = .ok (.iload_n 1, 1) := dk_27 (dq_lk dX4_set_v26 (r := 14) (x := 27) rfl)
theorem dX4_set_431 : decode cX4_set 431 = .ok (.aload_n 0, 1) := dk_42 (dq_lk dX4_set_v26 (r := 15) (x := 42) rfl)
theorem dX4_set_432 : decode cX4_set 432 = .ok (.getfield 17, 3) := dk_180 (dq_lk dX4_set_v27 (r := 0) (x := 180) rfl) (dq_lk dX4_set_v27 (r := 1) (x := 0) rfl) (dq_lk dX4_set_v27 (r := 2) (x := 17) rfl)
theorem dX4_set_435 : decode cX4_set 435 = .ok (.iload_n 1, 1) := dk_27 (dq_lk dX4_set_v27 (r := 3) (x := 27) rfl)
theorem dX4_set_436 : decode cX4_set 436 = .ok (.iaload, 1) := dk_46 (dq_lk dX4_set_v27 (r := 4) (x := 46) rfl)
theorem dX4_set_437 : decode cX4_set 437 = .ok (.iload 5, 2) := dk_21 (dq_lk dX4_set_v27 (r := 5) (x := 21) rfl) (dq_lk dX4_set_v27 (r := 6) (x := 5) rfl)
theorem dX4_set_439 : decode cX4_set 439 = .ok (.iload_n 3, 1) := dk_29 (dq_lk dX4_set_v27 (r := 7) (x := 29) rfl)
theorem dX4_set_440 : decode cX4_set 440 = .ok (.aload_n 0, 1) := dk_42 (dq_lk dX4_set_v27 (r := 8) (x := 42) rfl)
theorem dX4_set_441 : decode cX4_set 441 = .ok (.getfield 26, 3) := dk_180 (dq_lk dX4_set_v27 (r := 9) (x := 180) rfl) (dq_lk dX4_set_v27 (r := 10) (x := 0) rfl) (dq_lk dX4_set_v27 (r := 11) (x := 26) rfl)
theorem dX4_set_444 : decode cX4_set 444 = .ok (.iload_n 1, 1) := dk_27 (dq_lk dX4_set_v27 (r := 12) (x := 27) rfl)
theorem dX4_set_445 : decode cX4_set 445 = .ok (.iaload, 1) := dk_46 (dq_lk dX4_set_v27 (r := 13) (x := 46) rfl)
theorem dX4_set_446 : decode cX4_set 446 = .ok (.invokevirtual 139, 3) := dk_182 (dq_lk dX4_set_v27 (r := 14) (x := 182) rfl) (dq_lk dX4_set_v27 (r := 15) (x := 0) rfl) (dq_lk dX4_set_v28 (r := 0) (x := 139) rfl)
theorem dX4_set_449 : decode cX4_set 449 = .ok (.goto 7, 3) := dk_167 (dq_lk dX4_set_v28 (r := 1) (x := 167) rfl) (dq_lk dX4_set_v28 (r := 2) (x := 0) rfl) (dq_lk dX4_set_v28 (r := 3) (x := 7) rfl) (by decide +kernel)
theorem dX4_set_452 : decode cX4_set 452 = .ok (.aload_n 0, 1) := dk_42 (dq_lk dX4_set_v28 (r := 4) (x := 42) rfl)
theorem dX4_set_453 : decode cX4_set 453 = .ok (.invokevirtual 80, 3) := dk_182 (dq_lk dX4_set_v28 (r := 5) (x := 182) rfl) (dq_lk dX4_set_v28 (r := 6) (x := 0) rfl) (dq_lk dX4_set_v28 (r := 7) (x := 80) rfl)
theorem dX4_set_456 : decode cX4_set 456 = .ok (.ireturn, 1) := dk_172 (dq_lk dX4_set_v28 (r := 8) (x := 172) rfl)
theorem dX4_told_w0 : (cX4_told.data.toList.drop 0).take 64 = [42, 180, 0, 20, 27, 46, 62, 28, 7, 162, 0, 15, 42, 180, 0, 17, 27, 46, 184, 0, 170, 28, 46, 172, 28, 170, 0, 0, 0, 0, 0, 120, 0, 0, 0, 4, 0, 0, 0, 11, 0, 0, 0, 47, 0, 0, 0, 53, 0, 0, 0, 61, 0, 0, 0, 66, 0, 0, 0, 73, 0, 0, 0, 93] := by decide +kernel
theorem dX4_told_w1 : (cX4_told.data.toList.drop 64).take 64 = [0, 0, 0, 100, 0, 0, 0, 113, 29, 17, 14, 16, 108, 172, 29, 16, 60, 108, 16, 60, 112, 172, 29, 16, 60, 112, 172, 42, 180, 0, 23, 27, 46, 172, 42, 180, 0, 17, 27, 46, 133, 20, 0, 36, 97, 20, 0, 183, 184, 0, 102, 4, 96, 172, 42, 180, 0, 26, 27, 46, 172, 42, 27, 182] := by decide +kernel
theorem dX4_told_w2 : (cX4_told.data.toList.drop 128).take 64 = [0, 115, 20, 0, 96, 184, 0, 92, 136, 172, 42, 180, 0, 17, 27, 46, 172, 29, 172] := by decide +kernel
theorem dX4_told_v0 : (cX4_told.data.toList.drop 0).take 16 = [42, 180, 0, 20, 27, 46, 62, 28, 7, 162, 0, 15, 42, 180, 0, 17] := dq_sub (n := 0) (j := 0) dX4_told_w0 (by decide) rfl
theorem dX4_told_v1 : (cX4_told.data.toList.drop 16).take 16 = [27, 46, 184, 0, 170, 28, 46, 172, 28, 170, 0, 0, 0, 0, 0, 120] := dq_sub (n := 0) (j := 16) dX4_told_w0 (by decide) rfl
theorem dX4_told_v4 : (cX4_told.data.toList.drop 64).take 16 = [0, 0, 0, 100, 0, 0, 0, 113, 29, 17, 14, 16, 108, 172, 29, 16] := dq_sub (n := 64) (j := 0) dX4_told_w1 (by decide) rfl
theorem dX4_told_v5 : (cX4_told.data.toList.drop 80).take 16 = [60, 108, 16, 60, 112, 172, 29, 16, 60, 112, 172, 42, 180, 0, 23, 27] := dq_sub (n := 64) (j := 16) dX4_told_w1 (by decide) rfl
theorem dX4_told_v6 : (cX4_told.data.toList.drop 96).take 16 = [46, 172, 42, 180, 0, 17, 27, 46, 133, 20, 0, 36, 97, 20, 0, 183] := dq_sub (n := 64) (j := 32) dX4_told_w1 (by decide) rfl
theorem dX4_told_v7 : (cX4_told.data.toList.drop 112).take 16 = [184, 0, 102, 4, 96, 172, 42, 180, 0, 26, 27, 46, 172, 42, 27, 182] := dq_sub (n := 64) (j := 48) dX4_told_w1 (by decide) rfl
theorem dX4_told_v8 : (cX4_told.data.toList.drop 128).take 16 = [0, 115, 20, 0, 96, 184, 0, 92, 136, 172, 42, 180, 0, 17, 27, 46] := dq_sub (n := 128) (j := 0) dX4_told_w2 (by decide) rfl
theorem dX4_told_v9 : (cX4_told.data.toList.drop 144).take 16 = [172, 29, 172] := dq_sub (n := 128) (j := 16) dX4_told_w2 (by decide) rfl
theorem dX4_told_0 : decode cX4_told 0 = .ok (.aload_n 0, 1) := dk_42 (dq_lk dX4_told_v0 (r := 0) (x := 42) rfl)
theorem dX4_told_1 : decode cX4_told 1 = .ok (.getfield 20, 3) := dk_180 (dq_lk dX4_told_v0 (r := 1) (x := 180) rfl) (dq_lk dX4_told_v0 (r := 2) (x := 0) rfl) (dq_lk dX4_told_v0 (r := 3) (x := 20) rfl)
theorem dX4_told_4 : decode cX4_told 4 = .ok (.iload_n 1, 1) := dk_27 (dq_lk dX4_told_v0 (r := 4) (x := 27) rfl)
theorem dX4_told_5 : decode cX4_told 5 = .ok (.iaload, 1) := dk_46 (dq_lk dX4_told_v0 (r := 5) (x := 46) rfl)
theorem dX4_told_6 : decode cX4_told 6 = .ok (.istore_n 3, 1) := dk_62 (dq_lk dX4_told_v0 (r := 6) (x := 62) rfl)
theorem dX4_told_7 : decode cX4_told 7 = .ok (.iload_n 2, 1) := dk_28 (dq_lk dX4_told_v0 (r := 7) (x := 28) rfl)
theorem dX4_told_8 : decode cX4_told 8 = .ok (.iconst 4, 1) := dk_7 (dq_lk dX4_told_v0 (r := 8) (x := 7) rfl)
theorem dX4_told_9 : decode cX4_told 9 = .ok (.if_icmp .ge 15, 3) := dk_162 (dq_lk dX4_told_v0 (r := 9) (x := 162) rfl) (dq_lk dX4_told_v0 (r := 10) (x := 0) rfl) (dq_lk dX4_told_v0 (r := 11) (x := 15) rfl) (by decide +kernel)
theorem dX4_told_12 : decode cX4_told 12 = .ok (.aload_n 0, 1) := dk_42 (dq_lk dX4_told_v0 (r := 12) (x := 42) rfl)
theorem dX4_told_13 : decode cX4_told 13 = .ok (.getfield 17, 3) := dk_180 (dq_lk dX4_told_v0 (r := 13) (x := 180) rfl) (dq_lk dX4_told_v0 (r := 14) (x := 0) rfl) (dq_lk dX4_told_v0 (r := 15) (x := 17) rfl)
theorem dX4_told_16 : decode cX4_told 16 = .ok (.iload_n 1, 1) := dk_27 (dq_lk dX4_told_v1 (r := 0) (x := 27) rfl)
theorem dX4_told_17 : decode cX4_told 17 = .ok (.iaload, 1) := dk_46 (dq_lk dX4_told_v1 (r := 1) (x := 46) rfl)
theorem dX4_told_18 : decode cX4_told 18 = .ok (.invokestatic 170, 3) := dk_184 (dq_lk dX4_told_v1 (r := 2) (x := 184) rfl) (dq_lk dX4_told_v1 (r := 3) (x := 0) rfl) (dq_lk dX4_told_v1 (r := 4) (x := 170) rfl)
theorem dX4_told_21 : decode cX4_told 21 = .ok (.iload_n 2, 1) := dk_28 (dq_lk dX4_told_v1 (r := 5) (x := 28) rfl)
theorem dX4_told_22 : decode cX4_told 22 = .ok (.iaload, 1) := dk_46 (dq_lk dX4_told_v1 (r := 6) (x := 46) rfl)
theorem dX4_told_23 : decode cX4_told 23 = .ok (.ireturn, 1) := dk_172 (dq_lk dX4_told_v1 (r := 7) (x := 172) rfl)
theorem dX4_told_24 : decode cX4_told 24 = .ok (.iload_n 2, 1) := dk_28 (dq_lk dX4_told_v1 (r := 8) (x := 28) rfl)
theorem dX4_told_25 : decode cX4_told 25 = .ok (.tableswitch 120 4 11 #[47, 53, 61, 66, 73, 93, 100, 113], 47) := by decide +kernel
theorem dX4_told_72 : decode cX4_told 72 = .ok (.iload_n 3, 1) := dk_29 (dq_lk dX4_told_v4 (r := 8) (x := 29) rfl)
theorem dX4_told_73 : decode cX4_told 73 = .ok (.sipush 3600, 3) := dk_17 (dq_lk dX4_told_v4 (r := 9) (x := 17) rfl) (dq_lk dX4_told_v4 (r := 10) (x := 14) rfl) (dq_lk dX4_told_v4 (r := 11) (x := 16) rfl) (by decide +kernel)
theorem dX4_told_76 : decode cX4_told 76 = .ok (.idiv, 1) := dk_108 (dq_lk dX4_told_v4 (r := 12) (x := 108) rfl)
theorem dX4_told_77 : decode cX4_told 77 = .ok (.ireturn, 1) := dk_172 (dq_lk dX4_told_v4 (r := 13) (x := 172) rfl)
theorem dX4_told_78 : decode cX4_told 78 = .ok (.iload_n 3, 1) := dk_29 (dq_lk dX4_told_v4 (r := 14) (x := 29) rfl)
theorem dX4_told_79 : decode cX4_told 79 = .ok (.bipush 60, 2) := dk_16 (dq_lk dX4_told_v4 (r := 15) (x := 16) rfl) (dq_lk dX4_told_v5 (r := 0) (x := 60) rfl) (by decide +kernel)
theorem dX4_told_81 : decode cX4_told 81 = .ok (.idiv, 1) := dk_108 (dq_lk dX4_told_v5 (r := 1) (x := 108) rfl)
theorem dX4_told_82 : decode cX4_told 82 = .ok (.bipush 60, 2) := dk_16 (dq_lk dX4_told_v5 (r := 2) (x := 16) rfl) (dq_lk dX4_told_v5 (r := 3) (x := 60) rfl) (by decide +kernel)
theorem dX4_told_84 : decode cX4_told 84 = .ok (.irem, 1) := dk_112 (dq_lk dX4_told_v5 (r := 4) (x := 112) rfl)
theorem dX4_told_85 : decode cX4_told 85 = .ok (.ireturn, 1) := dk_172 (dq_lk dX4_told_v5 (r := 5) (x := 172) rfl)
theorem dX4_told_86 : decode cX4_told 86 = .ok (.iload_n 3, 1) := dk_29 (dq_lk dX4_told_v5 (r := 6) (x := 29) rfl)
theorem dX4_told_87 : decode cX4_told 87 = .ok (.bipush 60, 2) := dk_16 (dq_lk dX4_told_v5 (r := 7) (x := 16) rfl) (dq_lk dX4_told_v5 (r := 8) (x := 60) rfl) (by decide +kernel)
theorem dX4_told_89 : decode cX4_told 89 = .ok (.irem, 1) := dk_112 (dq_lk dX4_told_v5 (r := 9) (x := 112) rfl)
theorem dX4_told_90 : decode cX4_told 90 = .ok (.ireturn, 1) := dk_172 (dq_lk dX4_told_v5 (r := 10) (x := 172) rfl)
theorem dX4_told_91 : decode cX4_told 91 = .ok (.aload_n 0, 1) := dk_42 (dq_lk dX4_told_v5 (r := 11) (x := 42) rfl)
theorem dX4_told_92 : decode cX4_told 92 = .ok (.getfield 23, 3) := dk_180 (dq_lk dX4_told_v5 (r := 12) (x := 180) rfl) (dq_lk dX4_told_v5 (r := 13) (x := 0) rfl) (dq_lk dX4_told_v5 (r := 14) (x := 23) rfl)
theorem dX4_told_95 : decode cX4_told 95 = .ok (.iload_n 1, 1) := dk_27 (dq_lk dX4_told_v5 (r := 15) (x := 27) rfl)
theorem dX4_told_96 : decode cX4_told 96 = .ok (.iaload, 1) := dk_46 (dq_lk dX4_told_v6 (r := 0) (x := 46) rfl)
theorem dX4_told_97 : decode cX4_told 97 = .ok (.ireturn, 1) := dk_172 (dq_lk dX4_told_v6 (r := 1) (x := 172) rfl)
theorem dX4_told_98 : decode cX4_told 98 = .ok (.aload_n 0, 1) := dk_42 (dq_lk dX4_told_v6 (r := 2) (x := 42) rfl)
theorem dX4_told_99 : decode cX4_told 99 = .ok (.getfield 17, 3) := dk_180 (dq_lk dX4_told_v6 (r := 3) (x := 180) rfl) (dq_lk dX4_told_v6 (r := 4) (x := 0) rfl) (dq_lk dX4_told_v6 (r := 5) (x := 17) rfl)
theorem dX4_told_102 : decode cX4_told 102 = .ok (.iload_n 1, 1) := dk_27 (dq_lk dX4_told_v6 (r := 6) (x := 27) rfl)
theorem dX4_told_103 : decode cX4_told 103 = .ok (.iaload, 1) := dk_46 (dq_lk dX4_told_v6 (r := 7) (x := 46) rfl)
theorem dX4_told_104 : decode cX4_told 104 = .ok (.i2l, 1) := dk_133 (dq_lk dX4_told_v6 (r := 8) (x := 133) rfl)
theorem dX4_told_105 : decode cX4_told 105 = .ok (.ldc2_w 36, 3) := dk_20 (dq_lk dX4_told_v6 (r := 9) (x := 20) rfl) (dq_lk dX4_told_v6 (r := 10) (x := 0) rfl) (dq_lk dX4_told_v6 (r := 11) (x := 36) rfl)
theorem dX4_told_108 : decode cX4_told 108 = .ok (.ladd, 1) := dk_97 (dq_lk dX4_told_v6 (r := 12) (x := 97) rfl)
theorem dX4_told_109 : decode cX4_told 109 = .ok (.ldc2_w 183, 3) := dk_20 (dq_lk dX4_told_v6 (r := 13) (x := 20) rfl) (dq_lk dX4_told_v6 (r := 14) (x := 0) rfl) (dq_lk dX4_told_v6 (r := 15) (x := 183) rfl)
theorem dX4_told_112 : decode cX4_told 112 = .ok (.invokestatic 102, 3) := dk_184 (dq_lk dX4_told_v7 (r := 0) (x := 184) rfl) (dq_lk dX4_told_v7 (r := 1) (x := 0) rfl) (dq_lk dX4_told_v7 (r := 2) (x := 102) rfl)
theorem dX4_told_115 : decode cX4_told 115 = .ok (.iconst 1, 1) := dk_4 (dq_lk dX4_told_v7 (r := 3) (x := 4) rfl)
theorem dX4_told_116 : decode cX4_told 116 = .ok (.iadd, 1) := dk_96 (dq_lk dX4_told_v7 (r := 4) (x := 96) rfl)
theorem dX4_told_117 : decode cX4_told 117 = .ok (.ireturn, 1) := dk_172 (dq_lk dX4_told_v7 (r := 5) (x := 172) rfl)
theorem dX4_told_118 : decode cX4_told 118 = .ok (.aload_n 0, 1) := dk_42 (dq_lk dX4_told_v7 (r := 6) (x := 42) rfl)
theorem dX4_told_119 : decode cX4_told 119 = .ok (.getfield 26, 3) := dk_180 (dq_lk dX4_told_v7 (r := 7) (x := 180) rfl) (dq_lk dX4_told_v7 (r := 8) (x := 0) rfl) (dq_lk dX4_told_v7 (r := 9) (x := 26) rfl)
theorem dX4_told_122 : decode cX4_told 122 = .ok (.iload_n 1, 1) := dk_27 (dq_lk dX4_told_v7 (r := 10) (x := 27) rfl)
theorem dX4_told_123 : decode cX4_told 123 = .ok (.iaload, 1) := dk_46 (dq_lk dX4_told_v7 (r := 11) (x := 46) rfl)
theorem dX4_told_124 : decode cX4_told 124 = .ok (.ireturn, 1) := dk_172 (dq_lk dX4_told_v7 (r := 12) (x := 172) rfl)
theorem dX4_told_125 : decode cX4_told 125 = .ok (.aload_n 0, 1) := dk_42 (dq_lk dX4_told_v7 (r := 13) (x := 42) rfl)
theorem dX4_told_126 : decode cX4_told 126 = .ok (.iload_n 1, 1) := dk_27 (dq_lk dX4_told_v7 (r := 14) (x := 27) rfl)
theorem dX4_told_127 : decode cX4_told 127 = .ok (.invokevirtual 115, 3) := dk_182 (dq_lk dX4_told_v7 (r := 15) (x := 182) rfl) (dq_lk dX4_told_v8 (r := 0) (x := 0) rfl) (dq_lk dX4_told_v8 (r := 1) (x := 115) rfl)
theorem dX4_told_130 : decode cX4_told 130 = .ok (.ldc2_w 96, 3) := dk_20 (dq_lk dX4_told_v8 (r := 2) (x := 20) rfl) (dq_lk dX4_told_v8 (r := 3) (x := 0) rfl) (dq_lk dX4_told_v8 (r := 4) (x := 96) rfl)
theorem dX4_told_133 : decode cX4_told 133 = .ok (.invokestatic 92, 3) := dk_184 (dq_lk dX4_told_v8 (r := 5) (x := 184) rfl) (dq_lk dX4_told_v8 (r := 6) (x := 0) rfl) (dq_lk dX4_told_v8 (r := 7) (x := 92) rfl)
theorem dX4_told_136 : decode cX4_told 136 = .ok (.l2i, 1) := dk_136 (dq_lk dX4_told_v8 (r := 8) (x := 136) rfl)
theorem dX4_told_137 : decode cX4_told 137 = .ok (.ireturn, 1) := dk_172 (dq_lk dX4_told_v8 (r := 9) (x := 172) rfl)
theorem dX4_told_138 : decode cX4_told 138 = .ok (.aload_n 0, 1) := dk_42 (dq_lk dX4_told_v8 (r := 10) (x := 42) rfl)
theorem dX4_told_139 : decode cX4_told 139 = .ok (.getfield 17, 3) := dk_180 (dq_lk dX4_told_v8 (r := 11) (x := 180) rfl) (dq_lk dX4_told_v8 (r := 12) (x := 0) rfl) (dq_lk dX4_told_v8 (r := 13) (x := 17) rfl)
theorem dX4_told_142 : decode cX4_told 142 = .ok (.iload_n 1, 1) := dk_27 (dq_lk dX4_told_v8 (r := 14) (x := 27) rfl)
theorem dX4_told_143 : decode cX4_told 143 = .ok (.iaload, 1) := dk_46 (dq_lk dX4_told_v8 (r := 15) (x := 46) rfl)
theorem dX4_told_144 : decode cX4_told 144 = .ok (.ireturn, 1) := dk_172 (dq_lk dX4_told_v9 (r := 0) (x := 172) rfl)
theorem dX4_told_145 : decode cX4_told 145 = .ok (.iload_n 3, 1) := dk_29 (dq_lk dX4_told_v9 (r := 1) (x := 29) rfl)
theorem dX4_told_146 : decode cX4_told 146 = .ok (.ireturn, 1) := dk_172 (dq_lk dX4_told_v9 (r := 2) (x := 172) rfl)
end
