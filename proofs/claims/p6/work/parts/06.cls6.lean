/-! The class, its contracts (rows by a program of this repository). -/
theorem dJ9_floorDiv_f86c9_0 : decode cJ9_floorDiv_f86c9 0 = .ok (.lload_n 0, 1) := by decide +kernel
theorem dJ9_floorDiv_f86c9_1 : decode cJ9_floorDiv_f86c9 1 = .ok (.lload_n 2, 1) := by decide +kernel
theorem dJ9_floorDiv_f86c9_2 : decode cJ9_floorDiv_f86c9 2 = .ok (.ldiv, 1) := by decide +kernel
theorem dJ9_floorDiv_f86c9_3 : decode cJ9_floorDiv_f86c9 3 = .ok (.lstore 4, 2) := by decide +kernel
theorem dJ9_floorDiv_f86c9_5 : decode cJ9_floorDiv_f86c9 5 = .ok (.lload_n 0, 1) := by decide +kernel
theorem dJ9_floorDiv_f86c9_6 : decode cJ9_floorDiv_f86c9 6 = .ok (.lload_n 2, 1) := by decide +kernel
theorem dJ9_floorDiv_f86c9_7 : decode cJ9_floorDiv_f86c9 7 = .ok (.lxor, 1) := by decide +kernel
theorem dJ9_floorDiv_f86c9_8 : decode cJ9_floorDiv_f86c9 8 = .ok (.lconst 0, 1) := by decide +kernel
theorem dJ9_floorDiv_f86c9_9 : decode cJ9_floorDiv_f86c9 9 = .ok (.lcmp, 1) := by decide +kernel
theorem dJ9_floorDiv_f86c9_10 : decode cJ9_floorDiv_f86c9 10 = .ok (.ifCond .ge 17, 3) := by decide +kernel
theorem dJ9_floorDiv_f86c9_13 : decode cJ9_floorDiv_f86c9 13 = .ok (.lload 4, 2) := by decide +kernel
theorem dJ9_floorDiv_f86c9_15 : decode cJ9_floorDiv_f86c9 15 = .ok (.lload_n 2, 1) := by decide +kernel
theorem dJ9_floorDiv_f86c9_16 : decode cJ9_floorDiv_f86c9 16 = .ok (.lmul, 1) := by decide +kernel
theorem dJ9_floorDiv_f86c9_17 : decode cJ9_floorDiv_f86c9 17 = .ok (.lload_n 0, 1) := by decide +kernel
theorem dJ9_floorDiv_f86c9_18 : decode cJ9_floorDiv_f86c9 18 = .ok (.lcmp, 1) := by decide +kernel
theorem dJ9_floorDiv_f86c9_19 : decode cJ9_floorDiv_f86c9 19 = .ok (.ifCond .eq 8, 3) := by decide +kernel
theorem dJ9_floorDiv_f86c9_22 : decode cJ9_floorDiv_f86c9 22 = .ok (.lload 4, 2) := by decide +kernel
theorem dJ9_floorDiv_f86c9_24 : decode cJ9_floorDiv_f86c9 24 = .ok (.lconst 1, 1) := by decide +kernel
theorem dJ9_floorDiv_f86c9_25 : decode cJ9_floorDiv_f86c9 25 = .ok (.lsub, 1) := by decide +kernel
theorem dJ9_floorDiv_f86c9_26 : decode cJ9_floorDiv_f86c9 26 = .ok (.lreturn, 1) := by decide +kernel
theorem dJ9_floorDiv_f86c9_27 : decode cJ9_floorDiv_f86c9 27 = .ok (.lload 4, 2) := by decide +kernel
theorem dJ9_floorDiv_f86c9_29 : decode cJ9_floorDiv_f86c9 29 = .ok (.lreturn, 1) := by decide +kernel
set_option maxHeartbeats 4000000 in
set_option maxRecDepth 20000 in
theorem c_J9_floorDiv_f86c9 (tys : List (ClassId × FieldType)) (ws : va_W) (p0 : Int64) (p1 : Int64) (h0 : ¬ p1 = 0) : mCt tys yJ9_floorDiv_f86c9 cJ9_floorDiv_f86c9 6 (some .long) ⟨0, 0, 0, 0⟩ [.long p0, .long p1] ws (mRl ws) mNo := by
  refine mCt.of (by decide +kernel) (Nat.le_of_ble_eq_true rfl) (fun X hX hE => ?_)
  have hX : mOK X RJ9 cJ9_floorDiv_f86c9 6 ⟨0, 0, 0, 0⟩ [] tys := hX
  refine r_lload_n hX dJ9_floorDiv_f86c9_0 rfl rfl ?_
  refine r_lload_n hX dJ9_floorDiv_f86c9_1 rfl rfl ?_
  refine r_ldiv hX dJ9_floorDiv_f86c9_2 (by first | decide | assumption) ?_
  refine r_lstore hX dJ9_floorDiv_f86c9_3 (by decide) rfl ?_
  refine r_lload_n hX dJ9_floorDiv_f86c9_5 rfl rfl ?_
  refine r_lload_n hX dJ9_floorDiv_f86c9_6 rfl rfl ?_
  refine r_lxor hX dJ9_floorDiv_f86c9_7 ?_
  refine r_lconst (v := 0) hX dJ9_floorDiv_f86c9_8 (by decide) ?_
  refine r_lcmp hX dJ9_floorDiv_f86c9_9 ?_
  refine r_if_ge (tgt := 27) hX dJ9_floorDiv_f86c9_10 (by decide) (fun c1 => ?_) (fun c1 => ?_)
  · refine r_lload hX dJ9_floorDiv_f86c9_27 rfl ?_
    exact r_lret hX hE dJ9_floorDiv_f86c9_29 (Nat.le_of_ble_eq_true rfl) (Nat.le_of_ble_eq_true rfl) ⟨_, rfl, rfl⟩
  · refine r_lload hX dJ9_floorDiv_f86c9_13 rfl ?_
    refine r_lload_n hX dJ9_floorDiv_f86c9_15 rfl rfl ?_
    refine r_lmul hX dJ9_floorDiv_f86c9_16 ?_
    refine r_lload_n hX dJ9_floorDiv_f86c9_17 rfl rfl ?_
    refine r_lcmp hX dJ9_floorDiv_f86c9_18 ?_
    refine r_if_eq (tgt := 27) hX dJ9_floorDiv_f86c9_19 (by decide) (fun c2 => ?_) (fun c2 => ?_)
    · refine r_lload hX dJ9_floorDiv_f86c9_27 rfl ?_
      exact r_lret hX hE dJ9_floorDiv_f86c9_29 (Nat.le_of_ble_eq_true rfl) (Nat.le_of_ble_eq_true rfl) ⟨_, rfl, rfl⟩
    · refine r_lload hX dJ9_floorDiv_f86c9_22 rfl ?_
      refine r_lconst (v := 1) hX dJ9_floorDiv_f86c9_24 (by decide) ?_
      refine r_lsub hX dJ9_floorDiv_f86c9_25 ?_
      exact r_lret hX hE dJ9_floorDiv_f86c9_26 (Nat.le_of_ble_eq_true rfl) (Nat.le_of_ble_eq_true rfl) ⟨_, rfl, rfl⟩
theorem dJ9_floorMod_f86c9_0 : decode cJ9_floorMod_f86c9 0 = .ok (.lload_n 0, 1) := by decide +kernel
theorem dJ9_floorMod_f86c9_1 : decode cJ9_floorMod_f86c9 1 = .ok (.lload_n 2, 1) := by decide +kernel
theorem dJ9_floorMod_f86c9_2 : decode cJ9_floorMod_f86c9 2 = .ok (.lrem, 1) := by decide +kernel
theorem dJ9_floorMod_f86c9_3 : decode cJ9_floorMod_f86c9 3 = .ok (.lstore 4, 2) := by decide +kernel
theorem dJ9_floorMod_f86c9_5 : decode cJ9_floorMod_f86c9 5 = .ok (.lload_n 0, 1) := by decide +kernel
theorem dJ9_floorMod_f86c9_6 : decode cJ9_floorMod_f86c9 6 = .ok (.lload_n 2, 1) := by decide +kernel
theorem dJ9_floorMod_f86c9_7 : decode cJ9_floorMod_f86c9 7 = .ok (.lxor, 1) := by decide +kernel
theorem dJ9_floorMod_f86c9_8 : decode cJ9_floorMod_f86c9 8 = .ok (.lconst 0, 1) := by decide +kernel
theorem dJ9_floorMod_f86c9_9 : decode cJ9_floorMod_f86c9 9 = .ok (.lcmp, 1) := by decide +kernel
theorem dJ9_floorMod_f86c9_10 : decode cJ9_floorMod_f86c9 10 = .ok (.ifCond .ge 15, 3) := by decide +kernel
theorem dJ9_floorMod_f86c9_13 : decode cJ9_floorMod_f86c9 13 = .ok (.lload 4, 2) := by decide +kernel
theorem dJ9_floorMod_f86c9_15 : decode cJ9_floorMod_f86c9 15 = .ok (.lconst 0, 1) := by decide +kernel
theorem dJ9_floorMod_f86c9_16 : decode cJ9_floorMod_f86c9 16 = .ok (.lcmp, 1) := by decide +kernel
theorem dJ9_floorMod_f86c9_17 : decode cJ9_floorMod_f86c9 17 = .ok (.ifCond .eq 8, 3) := by decide +kernel
theorem dJ9_floorMod_f86c9_20 : decode cJ9_floorMod_f86c9 20 = .ok (.lload 4, 2) := by decide +kernel
theorem dJ9_floorMod_f86c9_22 : decode cJ9_floorMod_f86c9 22 = .ok (.lload_n 2, 1) := by decide +kernel
theorem dJ9_floorMod_f86c9_23 : decode cJ9_floorMod_f86c9 23 = .ok (.ladd, 1) := by decide +kernel
theorem dJ9_floorMod_f86c9_24 : decode cJ9_floorMod_f86c9 24 = .ok (.lreturn, 1) := by decide +kernel
theorem dJ9_floorMod_f86c9_25 : decode cJ9_floorMod_f86c9 25 = .ok (.lload 4, 2) := by decide +kernel
theorem dJ9_floorMod_f86c9_27 : decode cJ9_floorMod_f86c9 27 = .ok (.lreturn, 1) := by decide +kernel
set_option maxHeartbeats 4000000 in
set_option maxRecDepth 20000 in
theorem c_J9_floorMod_f86c9 (tys : List (ClassId × FieldType)) (ws : va_W) (p0 : Int64) (p1 : Int64) (h0 : ¬ p1 = 0) : mCt tys yJ9_floorMod_f86c9 cJ9_floorMod_f86c9 6 (some .long) ⟨0, 0, 0, 0⟩ [.long p0, .long p1] ws (mRl ws) mNo := by
  refine mCt.of (by decide +kernel) (Nat.le_of_ble_eq_true rfl) (fun X hX hE => ?_)
  have hX : mOK X RJ9 cJ9_floorMod_f86c9 6 ⟨0, 0, 0, 0⟩ [] tys := hX
  refine r_lload_n hX dJ9_floorMod_f86c9_0 rfl rfl ?_
  refine r_lload_n hX dJ9_floorMod_f86c9_1 rfl rfl ?_
  refine r_lrem hX dJ9_floorMod_f86c9_2 (by first | decide | assumption) ?_
  refine r_lstore hX dJ9_floorMod_f86c9_3 (by decide) rfl ?_
  refine r_lload_n hX dJ9_floorMod_f86c9_5 rfl rfl ?_
  refine r_lload_n hX dJ9_floorMod_f86c9_6 rfl rfl ?_
  refine r_lxor hX dJ9_floorMod_f86c9_7 ?_
  refine r_lconst (v := 0) hX dJ9_floorMod_f86c9_8 (by decide) ?_
  refine r_lcmp hX dJ9_floorMod_f86c9_9 ?_
  refine r_if_ge (tgt := 25) hX dJ9_floorMod_f86c9_10 (by decide) (fun c1 => ?_) (fun c1 => ?_)
  · refine r_lload hX dJ9_floorMod_f86c9_25 rfl ?_
    exact r_lret hX hE dJ9_floorMod_f86c9_27 (Nat.le_of_ble_eq_true rfl) (Nat.le_of_ble_eq_true rfl) ⟨_, rfl, rfl⟩
  · refine r_lload hX dJ9_floorMod_f86c9_13 rfl ?_
    refine r_lconst (v := 0) hX dJ9_floorMod_f86c9_15 (by decide) ?_
    refine r_lcmp hX dJ9_floorMod_f86c9_16 ?_
    refine r_if_eq (tgt := 25) hX dJ9_floorMod_f86c9_17 (by decide) (fun c2 => ?_) (fun c2 => ?_)
    · refine r_lload hX dJ9_floorMod_f86c9_25 rfl ?_
      exact r_lret hX hE dJ9_floorMod_f86c9_27 (Nat.le_of_ble_eq_true rfl) (Nat.le_of_ble_eq_true rfl) ⟨_, rfl, rfl⟩
    · refine r_lload hX dJ9_floorMod_f86c9_20 rfl ?_
      refine r_lload_n hX dJ9_floorMod_f86c9_22 rfl rfl ?_
      refine r_ladd hX dJ9_floorMod_f86c9_23 ?_
      exact r_lret hX hE dJ9_floorMod_f86c9_24 (Nat.le_of_ble_eq_true rfl) (Nat.le_of_ble_eq_true rfl) ⟨_, rfl, rfl⟩
theorem dJ9_floorMod_7cf53_0 : decode cJ9_floorMod_7cf53 0 = .ok (.iload_n 0, 1) := by decide +kernel
theorem dJ9_floorMod_7cf53_1 : decode cJ9_floorMod_7cf53 1 = .ok (.iload_n 1, 1) := by decide +kernel
theorem dJ9_floorMod_7cf53_2 : decode cJ9_floorMod_7cf53 2 = .ok (.irem, 1) := by decide +kernel
theorem dJ9_floorMod_7cf53_3 : decode cJ9_floorMod_7cf53 3 = .ok (.istore_n 2, 1) := by decide +kernel
theorem dJ9_floorMod_7cf53_4 : decode cJ9_floorMod_7cf53 4 = .ok (.iload_n 0, 1) := by decide +kernel
theorem dJ9_floorMod_7cf53_5 : decode cJ9_floorMod_7cf53 5 = .ok (.iload_n 1, 1) := by decide +kernel
theorem dJ9_floorMod_7cf53_6 : decode cJ9_floorMod_7cf53 6 = .ok (.ixor, 1) := by decide +kernel
theorem dJ9_floorMod_7cf53_7 : decode cJ9_floorMod_7cf53 7 = .ok (.ifCond .ge 11, 3) := by decide +kernel
theorem dJ9_floorMod_7cf53_10 : decode cJ9_floorMod_7cf53 10 = .ok (.iload_n 2, 1) := by decide +kernel
theorem dJ9_floorMod_7cf53_11 : decode cJ9_floorMod_7cf53 11 = .ok (.ifCond .eq 7, 3) := by decide +kernel
theorem dJ9_floorMod_7cf53_14 : decode cJ9_floorMod_7cf53 14 = .ok (.iload_n 2, 1) := by decide +kernel
theorem dJ9_floorMod_7cf53_15 : decode cJ9_floorMod_7cf53 15 = .ok (.iload_n 1, 1) := by decide +kernel
theorem dJ9_floorMod_7cf53_16 : decode cJ9_floorMod_7cf53 16 = .ok (.iadd, 1) := by decide +kernel
theorem dJ9_floorMod_7cf53_17 : decode cJ9_floorMod_7cf53 17 = .ok (.ireturn, 1) := by decide +kernel
theorem dJ9_floorMod_7cf53_18 : decode cJ9_floorMod_7cf53 18 = .ok (.iload_n 2, 1) := by decide +kernel
theorem dJ9_floorMod_7cf53_19 : decode cJ9_floorMod_7cf53 19 = .ok (.ireturn, 1) := by decide +kernel
set_option maxHeartbeats 4000000 in
set_option maxRecDepth 20000 in
theorem c_J9_floorMod_7cf53 (tys : List (ClassId × FieldType)) (ws : va_W) (p0 : Int32) (p1 : Int32) (h0 : ¬ p1 = 0) : mCt tys yJ9_floorMod_7cf53 cJ9_floorMod_7cf53 3 (some .int) ⟨0, 0, 0, 0⟩ [.int p0, .int p1] ws (mRi ws) mNo := by
  refine mCt.of (by decide +kernel) (Nat.le_of_ble_eq_true rfl) (fun X hX hE => ?_)
  have hX : mOK X RJ9 cJ9_floorMod_7cf53 3 ⟨0, 0, 0, 0⟩ [] tys := hX
  refine r_iload_n hX dJ9_floorMod_7cf53_0 rfl rfl ?_
  refine r_iload_n hX dJ9_floorMod_7cf53_1 rfl rfl ?_
  refine r_irem hX dJ9_floorMod_7cf53_2 (by first | decide | assumption) ?_
  refine r_istore_n hX dJ9_floorMod_7cf53_3 rfl (by decide) rfl ?_
  refine r_iload_n hX dJ9_floorMod_7cf53_4 rfl rfl ?_
  refine r_iload_n hX dJ9_floorMod_7cf53_5 rfl rfl ?_
  refine r_ixor hX dJ9_floorMod_7cf53_6 ?_
  refine r_if_ge (tgt := 18) hX dJ9_floorMod_7cf53_7 (by decide) (fun c1 => ?_) (fun c1 => ?_)
  · refine r_iload_n hX dJ9_floorMod_7cf53_18 rfl rfl ?_
    exact r_iret hX hE dJ9_floorMod_7cf53_19 (Nat.le_of_ble_eq_true rfl) (Nat.le_of_ble_eq_true rfl) ⟨_, rfl, rfl⟩
  · refine r_iload_n hX dJ9_floorMod_7cf53_10 rfl rfl ?_
    refine r_if_eq (tgt := 18) hX dJ9_floorMod_7cf53_11 (by decide) (fun c2 => ?_) (fun c2 => ?_)
    · refine r_iload_n hX dJ9_floorMod_7cf53_18 rfl rfl ?_
      exact r_iret hX hE dJ9_floorMod_7cf53_19 (Nat.le_of_ble_eq_true rfl) (Nat.le_of_ble_eq_true rfl) ⟨_, rfl, rfl⟩
    · refine r_iload_n hX dJ9_floorMod_7cf53_14 rfl rfl ?_
      refine r_iload_n hX dJ9_floorMod_7cf53_15 rfl rfl ?_
      refine r_iadd hX dJ9_floorMod_7cf53_16 ?_
      exact r_iret hX hE dJ9_floorMod_7cf53_17 (Nat.le_of_ble_eq_true rfl) (Nat.le_of_ble_eq_true rfl) ⟨_, rfl, rfl⟩
theorem dJ9_min_7cf53_0 : decode cJ9_min_7cf53 0 = .ok (.iload_n 0, 1) := by decide +kernel
theorem dJ9_min_7cf53_1 : decode cJ9_min_7cf53 1 = .ok (.iload_n 1, 1) := by decide +kernel
theorem dJ9_min_7cf53_2 : decode cJ9_min_7cf53 2 = .ok (.if_icmp .gt 7, 3) := by decide +kernel
theorem dJ9_min_7cf53_5 : decode cJ9_min_7cf53 5 = .ok (.iload_n 0, 1) := by decide +kernel
theorem dJ9_min_7cf53_6 : decode cJ9_min_7cf53 6 = .ok (.goto 4, 3) := by decide +kernel
theorem dJ9_min_7cf53_9 : decode cJ9_min_7cf53 9 = .ok (.iload_n 1, 1) := by decide +kernel
theorem dJ9_min_7cf53_10 : decode cJ9_min_7cf53 10 = .ok (.ireturn, 1) := by decide +kernel
set_option maxHeartbeats 4000000 in
set_option maxRecDepth 20000 in
theorem c_J9_min_7cf53 (tys : List (ClassId × FieldType)) (ws : va_W) (p0 : Int32) (p1 : Int32) : mCt tys yJ9_min_7cf53 cJ9_min_7cf53 2 (some .int) ⟨0, 0, 0, 0⟩ [.int p0, .int p1] ws (mRi ws) mNo := by
  refine mCt.of (by decide +kernel) (Nat.le_of_ble_eq_true rfl) (fun X hX hE => ?_)
  have hX : mOK X RJ9 cJ9_min_7cf53 2 ⟨0, 0, 0, 0⟩ [] tys := hX
  refine r_iload_n hX dJ9_min_7cf53_0 rfl rfl ?_
  refine r_iload_n hX dJ9_min_7cf53_1 rfl rfl ?_
  refine r_icmp_gt (tgt := 9) hX dJ9_min_7cf53_2 (by decide) (fun c1 => ?_) (fun c1 => ?_)
  · refine r_iload_n hX dJ9_min_7cf53_9 rfl rfl ?_
    exact r_iret hX hE dJ9_min_7cf53_10 (Nat.le_of_ble_eq_true rfl) (Nat.le_of_ble_eq_true rfl) ⟨_, rfl, rfl⟩
  · refine r_iload_n hX dJ9_min_7cf53_5 rfl rfl ?_
    refine r_goto (tgt := 10) hX dJ9_min_7cf53_6 (by decide) ?_
    exact r_iret hX hE dJ9_min_7cf53_10 (Nat.le_of_ble_eq_true rfl) (Nat.le_of_ble_eq_true rfl) ⟨_, rfl, rfl⟩
theorem dX2_isWithin_0 : decode cX2_isWithin 0 = .ok (.lload_n 0, 1) := by decide +kernel
theorem dX2_isWithin_1 : decode cX2_isWithin 1 = .ok (.lload_n 2, 1) := by decide +kernel
theorem dX2_isWithin_2 : decode cX2_isWithin 2 = .ok (.lcmp, 1) := by decide +kernel
theorem dX2_isWithin_3 : decode cX2_isWithin 3 = .ok (.ifCond .lt 14, 3) := by decide +kernel
theorem dX2_isWithin_6 : decode cX2_isWithin 6 = .ok (.lload_n 0, 1) := by decide +kernel
theorem dX2_isWithin_7 : decode cX2_isWithin 7 = .ok (.lload 4, 2) := by decide +kernel
theorem dX2_isWithin_9 : decode cX2_isWithin 9 = .ok (.lcmp, 1) := by decide +kernel
theorem dX2_isWithin_10 : decode cX2_isWithin 10 = .ok (.ifCond .gt 7, 3) := by decide +kernel
theorem dX2_isWithin_13 : decode cX2_isWithin 13 = .ok (.iconst 1, 1) := by decide +kernel
theorem dX2_isWithin_14 : decode cX2_isWithin 14 = .ok (.goto 4, 3) := by decide +kernel
theorem dX2_isWithin_17 : decode cX2_isWithin 17 = .ok (.iconst 0, 1) := by decide +kernel
theorem dX2_isWithin_18 : decode cX2_isWithin 18 = .ok (.ireturn, 1) := by decide +kernel
theorem lg_lt {x y : Int64} : lg_cmp x y < 0 ↔ x < y := by
  unfold lg_cmp
  by_cases h1 : y < x
  · have h2 : ¬ x < y := Int64.lt_asymm h1
    simp [h1, h2]
  · by_cases h2 : x = y
    · subst h2
      simp [h1]
    · have h3 : x < y := by
        rcases Int64.lt_or_le x y with h | h
        · exact h
        · exact absurd (Int64.le_antisymm (Int64.not_lt.mp h1) h) h2
      simp [h1, h2, h3]
theorem lg_gt {x y : Int64} : 0 < lg_cmp x y ↔ y < x := by
  unfold lg_cmp
  by_cases h1 : y < x
  · simp [h1]
  · by_cases h2 : x = y
    · simp [h2]
    · simp [h1, h2]
def f_isWithin (x a b : Int64) : Int32 := if a ≤ x ∧ x ≤ b then 1 else 0
theorem f_isWithin_B (x a b : Int64) : mB (f_isWithin x a b) := by unfold f_isWithin; split <;> simp [mB]
theorem c_X2_isWithin (tys : List (ClassId × FieldType)) (ws : va_W) (p0 p1 p2 : Int64) : mCt tys yX2_isWithin cX2_isWithin 6 (some .boolean) ⟨0, 0, 0, 0⟩ [.long p0, .long p1, .long p2] ws (fun v ws' => v = some (.int (f_isWithin p0 p1 p2)) ∧ ws' = ws) mNo := by
  refine mCt.of (by decide +kernel) (Nat.le_of_ble_eq_true rfl) (fun X hX hE => ?_)
  have hX : mOK X RX2 cX2_isWithin 6 ⟨0, 0, 0, 0⟩ [] tys := hX
  refine r_lload_n hX dX2_isWithin_0 rfl rfl ?_
  refine r_lload_n hX dX2_isWithin_1 rfl rfl ?_
  refine r_lcmp hX dX2_isWithin_2 ?_
  refine r_if_lt (tgt := 17) hX dX2_isWithin_3 (by decide) (fun c1 => ?_) (fun c1 => ?_)
  · refine r_iconst (v := 0) hX dX2_isWithin_17 (by decide) ?_
    refine r_zret hX hE dX2_isWithin_18 (by decide) (Nat.le_of_ble_eq_true rfl) (Nat.le_of_ble_eq_true rfl) ⟨?_, rfl⟩
    have h1 : ¬ p1 ≤ p0 := Int64.not_le.mpr (lg_lt.mp c1)
    simp [f_isWithin, h1]
  · have h1 : p1 ≤ p0 := Int64.not_lt.mp (fun h => c1 (lg_lt.mpr h))
    refine r_lload_n hX dX2_isWithin_6 rfl rfl ?_
    refine r_lload hX dX2_isWithin_7 rfl ?_
    refine r_lcmp hX dX2_isWithin_9 ?_
    refine r_if_gt (tgt := 17) hX dX2_isWithin_10 (by decide) (fun c2 => ?_) (fun c2 => ?_)
    · refine r_iconst (v := 0) hX dX2_isWithin_17 (by decide) ?_
      refine r_zret hX hE dX2_isWithin_18 (by decide) (Nat.le_of_ble_eq_true rfl) (Nat.le_of_ble_eq_true rfl) ⟨?_, rfl⟩
      have h2 : ¬ p0 ≤ p2 := Int64.not_le.mpr (lg_gt.mp c2)
      simp [f_isWithin, h2]
    · have h2 : p0 ≤ p2 := Int64.not_lt.mp (fun h => c2 (lg_gt.mpr h))
      refine r_iconst (v := 1) hX dX2_isWithin_13 (by decide) ?_
      refine r_goto (tgt := 18) hX dX2_isWithin_14 (by decide) ?_
      refine r_zret hX hE dX2_isWithin_18 (by decide) (Nat.le_of_ble_eq_true rfl) (Nat.le_of_ble_eq_true rfl) ⟨?_, rfl⟩
      simp [f_isWithin, h1, h2]
theorem dX2_requireOne_0 : decode cX2_requireOne 0 = .ok (.iload_n 0, 1) := by decide +kernel
theorem dX2_requireOne_1 : decode cX2_requireOne 1 = .ok (.ifCond .lt 8, 3) := by decide +kernel
theorem dX2_requireOne_4 : decode cX2_requireOne 4 = .ok (.iload_n 0, 1) := by decide +kernel
theorem dX2_requireOne_5 : decode cX2_requireOne 5 = .ok (.iload_n 1, 1) := by decide +kernel
theorem dX2_requireOne_6 : decode cX2_requireOne 6 = .ok (.if_icmp .lt 13, 3) := by decide +kernel
theorem dX2_requireOne_9 : decode cX2_requireOne 9 = .ok (.new 250, 3) := by decide +kernel
theorem dX2_requireOne_12 : decode cX2_requireOne 12 = .ok (.dup, 1) := by decide +kernel
theorem dX2_requireOne_13 : decode cX2_requireOne 13 = .ok (.ldc 252, 2) := by decide +kernel
theorem dX2_requireOne_15 : decode cX2_requireOne 15 = .ok (.invokespecial 254, 3) := by decide +kernel
theorem dX2_requireOne_18 : decode cX2_requireOne 18 = .ok (.athrow, 1) := by decide +kernel
theorem dX2_requireOne_19 : decode cX2_requireOne 19 = .ok (.return_, 1) := by decide +kernel
theorem kat_one : ∀ w ∈ vx_atS RX2 254 xI ["java/lang/RuntimeException", "java/lang/Exception"], w ∈ mW := by decide +kernel
theorem kgd_one : ∀ w ∈ Cond.classLink RX2 250 xI :: Cond.initialized xI :: vx_atS RX2 254 xI ["java/lang/RuntimeException", "java/lang/Exception"], vx_ot w = true := by decide +kernel
theorem kat_wit : ∀ w ∈ vx_atS RX2 261 xA ["java/lang/RuntimeException", "java/lang/Exception"], w ∈ mW := by decide +kernel
theorem kgd_wit : ∀ w ∈ Cond.classLink RX2 257 xA :: Cond.initialized xA :: vx_atS RX2 261 xA ["java/lang/RuntimeException", "java/lang/Exception"], vx_ot w = true := by decide +kernel
theorem c_X2_requireOne (tys : List (ClassId × FieldType)) (ws : va_W) (p0 : Int32) (N : Nat) (hN : N < 2 ^ 31) : mCt tys yX2_requireOne cX2_requireOne 2 none ⟨6, 1, 6, 82⟩ [.int p0, .int (nI N)] ws (fun v ws' => ∃ j, j < N ∧ p0 = nI j ∧ v = none ∧ ws' = ws) (fun E ws' => E = xI ∧ ws' = ws ∧ ¬ vp_in p0 N) := by
  refine mCt.of (by decide +kernel) (Nat.le_of_ble_eq_true rfl) (fun X hX hE => ?_)
  have hX : mOK X RX2 cX2_requireOne 2 ⟨6, 1, 6, 82⟩ [] tys := hX
  have thr : ∀ lv, ¬ vp_in p0 N → mV X 9 lv [] ws 0 0 := fun lv hn =>
    r_throw (cls := xI) (text := "there is no such one") (names := ["java/lang/RuntimeException", "java/lang/Exception"]) hX hE (by decide +kernel) (by decide +kernel) kl_X2_250 kt_java_lang_IndexOutOfBoundsException kat_one kgd_one (fun A U h => h.1) dX2_requireOne_9 dX2_requireOne_12 dX2_requireOne_13 dX2_requireOne_15 dX2_requireOne_18 (by decide) (by decide) (by decide) (by decide) (by decide) (by decide) ⟨rfl, rfl, hn⟩
  refine r_iload_n hX dX2_requireOne_0 rfl rfl ?_
  refine r_if_lt (tgt := 9) hX dX2_requireOne_1 (by decide) (fun c1 => ?_) (fun c1 => ?_)
  · exact thr _ (fun h => h (Or.inl c1))
  · refine r_iload_n hX dX2_requireOne_4 rfl rfl ?_
    refine r_iload_n hX dX2_requireOne_5 rfl rfl ?_
    obtain ⟨j, hj, rfl⟩ := nI_of c1
    refine r_icmp_lt (tgt := 19) hX dX2_requireOne_6 (by decide) (fun c2 => ?_) (fun c2 => ?_)
    · have hjN : j < N := (nI_ltI hj hN).mp c2
      exact r_vret hX hE dX2_requireOne_19 (Nat.le_of_ble_eq_true rfl) (Nat.le_of_ble_eq_true rfl) ⟨j, hjN, rfl, rfl, rfl⟩
    · exact thr _ (fun h => by
        have h2 := (vp_in_iff.mp h).2
        rw [nI_toInt hj] at h2
        exact c2 ((nI_ltI hj hN).mpr (by omega)))
theorem c_X2_requireOne_ok (tys : List (ClassId × FieldType)) (ws : va_W) (N : Nat) (hN : N < 2 ^ 31) (j : Nat) (hj : j < N) : mCt tys yX2_requireOne cX2_requireOne 2 none ⟨0, 0, 0, 0⟩ [.int (nI j), .int (nI N)] ws (fun v ws' => v = none ∧ ws' = ws) mNo := by
  refine mCt.of (by decide +kernel) (Nat.le_of_ble_eq_true rfl) (fun X hX hE => ?_)
  have hX : mOK X RX2 cX2_requireOne 2 ⟨0, 0, 0, 0⟩ [] tys := hX
  have hj2 : j < 2 ^ 31 := by omega
  refine r_iload_n hX dX2_requireOne_0 rfl rfl ?_
  refine r_if_lt (tgt := 9) hX dX2_requireOne_1 (by decide) (fun c1 => absurd c1 (nI_pos hj2)) (fun c1 => ?_)
  refine r_iload_n hX dX2_requireOne_4 rfl rfl ?_
  refine r_iload_n hX dX2_requireOne_5 rfl rfl ?_
  refine r_icmp_lt (tgt := 19) hX dX2_requireOne_6 (by decide) (fun c2 => ?_) (fun c2 => absurd ((nI_ltI hj2 hN).mpr hj) c2)
  exact r_vret hX hE dX2_requireOne_19 (Nat.le_of_ble_eq_true rfl) (Nat.le_of_ble_eq_true rfl) ⟨rfl, rfl⟩
theorem dX2_requireWithin_0 : decode cX2_requireWithin 0 = .ok (.iload_n 0, 1) := by decide +kernel
theorem dX2_requireWithin_1 : decode cX2_requireWithin 1 = .ok (.i2l, 1) := by decide +kernel
theorem dX2_requireWithin_2 : decode cX2_requireWithin 2 = .ok (.iload_n 1, 1) := by decide +kernel
theorem dX2_requireWithin_3 : decode cX2_requireWithin 3 = .ok (.i2l, 1) := by decide +kernel
theorem dX2_requireWithin_4 : decode cX2_requireWithin 4 = .ok (.iload_n 2, 1) := by decide +kernel
theorem dX2_requireWithin_5 : decode cX2_requireWithin 5 = .ok (.i2l, 1) := by decide +kernel
theorem dX2_requireWithin_6 : decode cX2_requireWithin 6 = .ok (.invokestatic 48, 3) := by decide +kernel
theorem dX2_requireWithin_9 : decode cX2_requireWithin 9 = .ok (.ifCond .ne 14, 3) := by decide +kernel
theorem dX2_requireWithin_12 : decode cX2_requireWithin 12 = .ok (.new 257, 3) := by decide +kernel
theorem dX2_requireWithin_15 : decode cX2_requireWithin 15 = .ok (.dup, 1) := by decide +kernel
theorem dX2_requireWithin_16 : decode cX2_requireWithin 16 = .ok (.ldc_w 259, 3) := by decide +kernel
theorem dX2_requireWithin_19 : decode cX2_requireWithin 19 = .ok (.invokespecial 261, 3) := by decide +kernel
theorem dX2_requireWithin_22 : decode cX2_requireWithin 22 = .ok (.athrow, 1) := by decide +kernel
theorem dX2_requireWithin_23 : decode cX2_requireWithin 23 = .ok (.return_, 1) := by decide +kernel
section MWT
variable {X : mC} {own : String} {cc : ByteArray} {nL : Nat} {R : Room} {tys : List (ClassId × FieldType)} {pc : Nat} {lv : List (Nat × Option Value)} {st : List Value} {ws : va_W} {k n : Nat} {Φ : Option Value → va_W → Prop} {Ψ : String → va_W → Prop} {mc ms : Nat} {ret : Option FieldType}
theorem r_throwW {cls text : String} {names : List String} {ik is ic : Nat} (hX : mOK X own cc nL R [] tys) (hE : mE X Φ Ψ ret mc ms) (hcls : Bundle.fit cls = true) (hnames : ∀ n ∈ names, Bundle.fit n = true) (hk0 : Cond.classLink own ik cls ∈ mW) (hini : Cond.initialized cls ∈ mW) (hat : ∀ w ∈ vx_atS own ic cls names, w ∈ mW)
    (hgood : ∀ w ∈ Cond.classLink own ik cls :: Cond.initialized cls :: vx_atS own ic cls names, vx_ot w = true) (hstr : ∀ (A : Nat → Prop) (U : State), mst A U → ∃ a, vk_R own is text a U)
    (d0 : decode cc pc = .ok (.new ik, 3)) (d3 : decode cc (pc + 3) = .ok (.dup, 1)) (d4 : decode cc (pc + 4) = .ok (.ldc_w is, 3)) (d7 : decode cc (pc + 7) = .ok (.invokespecial ic, 3)) (d10 : decode cc (pc + 10) = .ok (.athrow, 1))
    (hf : names.length + 3 < R.frames) (hlo : (st.map fun v => v.category).sum + (13 * (names.length + 1) + 43) ≤ R.locals) (hRc : k + 1 ≤ R.cells) (hRs : n + 6 ≤ R.slots) (hk : k + 1 ≤ mc) (hn : n + 6 ≤ ms) (hΨ : Ψ cls ws) : mV X pc lv st ws k n := by
  obtain ⟨p, l, e, R', s, m, args, below, meth, c, Q, D, tys', A⟩ := X
  obtain ⟨hx, hb, hml, hR, hown, hts, hK, hty, hlk, hA, hst, hlt, htab⟩ := hX
  obtain ⟨hr, rfl⟩ := hE
  subst hR
  obtain ⟨sa, hsa⟩ := hstr A s hst
  refine fun H locs ls hP hD hS hl => vx_throwSW hx hb hlt (A := A) hown hcls hnames (hts _ hk0) (hts _ hini) hsa (fun w hw => hts w (hat w hw)) hgood hst.2.2.1 hst.2.2.2.1 hS hl.1 d0 d3 d4 d7 d10 (by rw [htab]; exact fun x h => nomatch h) hf hlo hRc hRs hlk (fun t _ hz hq => ⟨ws, hΨ, fun i q h => ?_, hD, ?_⟩) hS.2.2 hk hn
  · exact (hP i q h).kept (hq q.1 (hP i q h).lt)
  · exact ⟨Nat.le_trans hS.1 hz, fun q h1 h2 => (hq q (Nat.lt_of_lt_of_le h1 hS.1)).trans (hS.2.1 q h1 h2)⟩
end MWT
theorem i2l_le {x y : Int32} : x.toInt64 ≤ y.toInt64 ↔ x ≤ y := by
  rw [Int64.le_iff_toInt_le, Int32.le_iff_toInt_le, Int32.toInt_toInt64, Int32.toInt_toInt64]
theorem c_X2_requireWithin (tys : List (ClassId × FieldType)) (ws : va_W) (p0 p1 p2 : Int32) : mCt tys yX2_requireWithin cX2_requireWithin 3 none ⟨6, 1, 6, 82⟩ [.int p0, .int p1, .int p2] ws (fun v ws' => (p1 ≤ p0 ∧ p0 ≤ p2) ∧ v = none ∧ ws' = ws) (fun E ws' => E = xA ∧ ws' = ws ∧ ¬ (p1 ≤ p0 ∧ p0 ≤ p2)) := by
  refine mCt.of (by decide +kernel) (Nat.le_of_ble_eq_true rfl) (fun X hX hE => ?_)
  have hX : mOK X RX2 cX2_requireWithin 3 ⟨6, 1, 6, 82⟩ [] tys := hX
  refine r_iload_n hX dX2_requireWithin_0 rfl rfl ?_
  refine r_i2l hX dX2_requireWithin_1 ?_
  refine r_iload_n hX dX2_requireWithin_2 rfl rfl ?_
  refine r_i2l hX dX2_requireWithin_3 ?_
  refine r_iload_n hX dX2_requireWithin_4 rfl rfl ?_
  refine r_i2l hX dX2_requireWithin_5 ?_
  refine r_callS hX (c_X2_isWithin _ _ _ _ _) ks_X2_48 rfl rfl (Nat.le_of_ble_eq_true rfl) ⟨(Nat.le_of_ble_eq_true rfl), (Nat.le_of_ble_eq_true rfl)⟩ ⟨(Nat.le_of_ble_eq_true rfl), (Nat.le_of_ble_eq_true rfl)⟩ dX2_requireWithin_6 (fun _ _ z => False.elim z) (fun v9 ws9 h1 => ?_)
  obtain ⟨rfl, hw9⟩ := h1
  subst ws9
  dsimp only [mPush]
  refine r_if_ne (tgt := 23) hX dX2_requireWithin_9 (by decide) (fun c1 => ?_) (fun c1 => ?_)
  · refine r_vret hX hE dX2_requireWithin_23 (Nat.le_of_ble_eq_true rfl) (Nat.le_of_ble_eq_true rfl) ⟨?_, rfl, rfl⟩
    simp only [f_isWithin, i2l_le] at c1
    by_cases h : p1 ≤ p0 ∧ p0 ≤ p2
    · exact h
    · exact absurd (if_neg h) c1
  · refine r_throwW (cls := xA) (text := "a number is not within its limits") (names := ["java/lang/RuntimeException", "java/lang/Exception"]) hX hE (by decide +kernel) (by decide +kernel) kl_X2_257 kt_java_lang_IllegalArgumentException kat_wit kgd_wit (fun A U h => h.2.1) dX2_requireWithin_12 dX2_requireWithin_15 dX2_requireWithin_16 dX2_requireWithin_19 dX2_requireWithin_22 (by decide) (by decide) (by decide) (by decide) (by decide) (by decide) ⟨rfl, rfl, fun h => c1 ?_⟩
    simp only [f_isWithin, i2l_le]
    rw [if_pos h]
    decide
theorem dX2_at_0 : decode cX2_at 0 = .ok (.iload_n 1, 1) := by decide +kernel
theorem dX2_at_1 : decode cX2_at 1 = .ok (.ifCond .lt 15, 3) := by decide +kernel
theorem dX2_at_4 : decode cX2_at 4 = .ok (.iload_n 1, 1) := by decide +kernel
theorem dX2_at_5 : decode cX2_at 5 = .ok (.aload_n 0, 1) := by decide +kernel
theorem dX2_at_6 : decode cX2_at 6 = .ok (.arraylength, 1) := by decide +kernel
theorem dX2_at_7 : decode cX2_at 7 = .ok (.if_icmp .ge 9, 3) := by decide +kernel
theorem dX2_at_10 : decode cX2_at 10 = .ok (.aload_n 0, 1) := by decide +kernel
theorem dX2_at_11 : decode cX2_at 11 = .ok (.iload_n 1, 1) := by decide +kernel
theorem dX2_at_12 : decode cX2_at 12 = .ok (.aaload, 1) := by decide +kernel
theorem dX2_at_13 : decode cX2_at 13 = .ok (.ifnonnull 13, 3) := by decide +kernel
theorem dX2_at_16 : decode cX2_at 16 = .ok (.new 250, 3) := by decide +kernel
theorem dX2_at_19 : decode cX2_at 19 = .ok (.dup, 1) := by decide +kernel
theorem dX2_at_20 : decode cX2_at 20 = .ok (.ldc 252, 2) := by decide +kernel
theorem dX2_at_22 : decode cX2_at 22 = .ok (.invokespecial 254, 3) := by decide +kernel
theorem dX2_at_25 : decode cX2_at 25 = .ok (.athrow, 1) := by decide +kernel
theorem dX2_at_26 : decode cX2_at 26 = .ok (.aload_n 0, 1) := by decide +kernel
theorem dX2_at_27 : decode cX2_at 27 = .ok (.iload_n 1, 1) := by decide +kernel
theorem dX2_at_28 : decode cX2_at 28 = .ok (.aaload, 1) := by decide +kernel
theorem dX2_at_29 : decode cX2_at 29 = .ok (.areturn, 1) := by decide +kernel
theorem c_X2_at (ad : Nat → Nat) (cs : ClassId × ClassId × ClassId) (ws : va_W) (q0 a n0 b0 : Nat) (he : ws[q0]? = some (a, .inl (cs.2.2, n0, .inr (.inr (.inr (.inr (fun j => some (ad (j + b0 + 5))))))))) (hN : n0 < 2 ^ 31) (p1 : Int32) : mCt (mTy cs) yX2_at cX2_at 2 (some (.object "Momentdesk$Local")) ⟨6, 1, 6, 82⟩ [.ref a, .int p1] ws (fun v ws' => ∃ j, j < n0 ∧ p1 = nI j ∧ v = some (.ref (ad (j + b0 + 5))) ∧ ws' = ws) (fun E ws' => E = xI ∧ ws' = ws ∧ ¬ vp_in p1 n0) := by
  refine mCt.of (by decide +kernel) (Nat.le_of_ble_eq_true rfl) (fun X hX hE => ?_)
  have hX : mOK X RX2 cX2_at 2 ⟨6, 1, 6, 82⟩ [] (mTy cs) := hX
  have thr : ∀ lv, ¬ vp_in p1 n0 → mV X 16 lv [] ws 0 0 := fun lv hn =>
    r_throw (cls := xI) (text := "there is no such one") (names := ["java/lang/RuntimeException", "java/lang/Exception"]) hX hE (by decide +kernel) (by decide +kernel) kl_X2_250 kt_java_lang_IndexOutOfBoundsException kat_one kgd_one (fun A U h => h.1) dX2_at_16 dX2_at_19 dX2_at_20 dX2_at_22 dX2_at_25 (by decide) (by decide) (by decide) (by decide) (by decide) (by decide) ⟨rfl, rfl, hn⟩
  refine r_iload_n hX dX2_at_0 rfl rfl ?_
  refine r_if_lt (tgt := 16) hX dX2_at_1 (by decide) (fun c1 => ?_) (fun c1 => ?_)
  · exact thr _ (fun h => h (Or.inl c1))
  · refine r_iload_n hX dX2_at_4 rfl rfl ?_
    refine r_aload_n hX dX2_at_5 rfl rfl ?_
    refine r_alen (v := nI n0) hX q0 2 he rfl rfl dX2_at_6 ?_
    obtain ⟨j, hj, rfl⟩ := nI_of c1
    refine r_icmp_ge (tgt := 16) hX dX2_at_7 (by decide) (fun c2 => ?_) (fun c2 => ?_)
    · exact thr _ (fun h => by
        have h2 := (vp_in_iff.mp h).2
        rw [nI_toInt hj] at h2
        have h3 := (nI_leI hN hj).mp c2
        omega)
    · have hjN : j < n0 := by
        rcases Nat.lt_or_ge j n0 with h | h
        · exact h
        · exact absurd ((nI_leI hN hj).mpr h) c2
      have hin := vp_in_nI hjN hN
      refine r_aload_n hX dX2_at_10 rfl rfl ?_
      refine r_iload_n hX dX2_at_11 rfl rfl ?_
      refine r_aald hX q0 2 he rfl hin dX2_at_12 ?_
      refine r_ifnonnull (x := ad ((nI j).toNatClampNeg + b0 + 5)) (tgt := 26) hX dX2_at_13 (by decide) ?_
      refine r_aload_n hX dX2_at_26 rfl rfl ?_
      refine r_iload_n hX dX2_at_27 rfl rfl ?_
      refine r_aald hX q0 2 he rfl hin dX2_at_28 ?_
      refine r_aret (v := .ref (ad ((nI j).toNatClampNeg + b0 + 5))) hX hE dX2_at_29 (Or.inl ⟨_, rfl⟩) (Or.inr ⟨_, rfl⟩) (Nat.le_of_ble_eq_true rfl) (Nat.le_of_ble_eq_true rfl) ⟨j, hjN, rfl, ?_, rfl⟩
      rw [nI_clamp hj]
theorem c_X2_at_ok (ad : Nat → Nat) (cs : ClassId × ClassId × ClassId) (ws : va_W) (q0 a n0 b0 : Nat) (he : ws[q0]? = some (a, .inl (cs.2.2, n0, .inr (.inr (.inr (.inr (fun j => some (ad (j + b0 + 5))))))))) (hN : n0 < 2 ^ 31) (j : Nat) (hjN : j < n0) : mCt (mTy cs) yX2_at cX2_at 2 (some (.object "Momentdesk$Local")) ⟨0, 0, 0, 0⟩ [.ref a, .int (nI j)] ws (fun v ws' => v = some (.ref (ad (j + b0 + 5))) ∧ ws' = ws) mNo := by
  refine mCt.of (by decide +kernel) (Nat.le_of_ble_eq_true rfl) (fun X hX hE => ?_)
  have hX : mOK X RX2 cX2_at 2 ⟨0, 0, 0, 0⟩ [] (mTy cs) := hX
  have hj : j < 2 ^ 31 := by omega
  have hin := vp_in_nI hjN hN
  refine r_iload_n hX dX2_at_0 rfl rfl ?_
  refine r_if_lt (tgt := 16) hX dX2_at_1 (by decide) (fun c1 => absurd c1 (nI_pos hj)) (fun c1 => ?_)
  refine r_iload_n hX dX2_at_4 rfl rfl ?_
  refine r_aload_n hX dX2_at_5 rfl rfl ?_
  refine r_alen (v := nI n0) hX q0 2 he rfl rfl dX2_at_6 ?_
  refine r_icmp_ge (tgt := 16) hX dX2_at_7 (by decide) (fun c2 => absurd ((nI_leI hN hj).mp c2) (by omega)) (fun c2 => ?_)
  refine r_aload_n hX dX2_at_10 rfl rfl ?_
  refine r_iload_n hX dX2_at_11 rfl rfl ?_
  refine r_aald hX q0 2 he rfl hin dX2_at_12 ?_
  refine r_ifnonnull (x := ad ((nI j).toNatClampNeg + b0 + 5)) (tgt := 26) hX dX2_at_13 (by decide) ?_
  refine r_aload_n hX dX2_at_26 rfl rfl ?_
  refine r_iload_n hX dX2_at_27 rfl rfl ?_
  refine r_aald hX q0 2 he rfl hin dX2_at_28 ?_
  refine r_aret (v := .ref (ad ((nI j).toNatClampNeg + b0 + 5))) hX hE dX2_at_29 (Or.inl ⟨_, rfl⟩) (Or.inr ⟨_, rfl⟩) (Nat.le_of_ble_eq_true rfl) (Nat.le_of_ble_eq_true rfl) ⟨?_, rfl⟩
  rw [nI_clamp hj]
theorem c_X2_requireWithin_ok (tys : List (ClassId × FieldType)) (ws : va_W) (p0 p1 p2 : Int32) (h : p1 ≤ p0 ∧ p0 ≤ p2) : mCt tys yX2_requireWithin cX2_requireWithin 3 none ⟨1, 0, 0, 25⟩ [.int p0, .int p1, .int p2] ws (fun v ws' => v = none ∧ ws' = ws) mNo := by
  refine mCt.of (by decide +kernel) (Nat.le_of_ble_eq_true rfl) (fun X hX hE => ?_)
  have hX : mOK X RX2 cX2_requireWithin 3 ⟨1, 0, 0, 25⟩ [] tys := hX
  refine r_iload_n hX dX2_requireWithin_0 rfl rfl ?_
  refine r_i2l hX dX2_requireWithin_1 ?_
  refine r_iload_n hX dX2_requireWithin_2 rfl rfl ?_
  refine r_i2l hX dX2_requireWithin_3 ?_
  refine r_iload_n hX dX2_requireWithin_4 rfl rfl ?_
  refine r_i2l hX dX2_requireWithin_5 ?_
  refine r_callS hX (c_X2_isWithin _ _ _ _ _) ks_X2_48 rfl rfl (Nat.le_of_ble_eq_true rfl) ⟨(Nat.le_of_ble_eq_true rfl), (Nat.le_of_ble_eq_true rfl)⟩ ⟨(Nat.le_of_ble_eq_true rfl), (Nat.le_of_ble_eq_true rfl)⟩ dX2_requireWithin_6 (fun _ _ z => False.elim z) (fun v9 ws9 h1 => ?_)
  obtain ⟨rfl, hw9⟩ := h1
  subst ws9
  dsimp only [mPush]
  refine r_if_ne (tgt := 23) hX dX2_requireWithin_9 (by decide) (fun c1 => ?_) (fun c1 => absurd ?_ c1)
  · exact r_vret hX hE dX2_requireWithin_23 (Nat.le_of_ble_eq_true rfl) (Nat.le_of_ble_eq_true rfl) ⟨rfl, rfl⟩
  · simp only [f_isWithin, i2l_le]
    rw [if_pos h]
    decide
theorem mbn {j : Nat} (hj : j < 4) : (0 : Int32) ≤ nI j ∧ nI j ≤ 3 := ⟨nI_pos' (by omega), (nI_leI (a := j) (b := 3) (by omega) (by omega)).mpr (by omega)⟩
theorem dX0_isLeap_0 : decode cX0_isLeap 0 = .ok (.iload_n 0, 1) := by decide +kernel
theorem dX0_isLeap_1 : decode cX0_isLeap 1 = .ok (.iconst 4, 1) := by decide +kernel
theorem dX0_isLeap_2 : decode cX0_isLeap 2 = .ok (.irem, 1) := by decide +kernel
theorem dX0_isLeap_3 : decode cX0_isLeap 3 = .ok (.ifCond .ne 22, 3) := by decide +kernel
theorem dX0_isLeap_6 : decode cX0_isLeap 6 = .ok (.iload_n 0, 1) := by decide +kernel
theorem dX0_isLeap_7 : decode cX0_isLeap 7 = .ok (.bipush 100, 2) := by decide +kernel
theorem dX0_isLeap_9 : decode cX0_isLeap 9 = .ok (.irem, 1) := by decide +kernel
theorem dX0_isLeap_10 : decode cX0_isLeap 10 = .ok (.ifCond .ne 11, 3) := by decide +kernel
theorem dX0_isLeap_13 : decode cX0_isLeap 13 = .ok (.iload_n 0, 1) := by decide +kernel
theorem dX0_isLeap_14 : decode cX0_isLeap 14 = .ok (.sipush 400, 3) := by decide +kernel
theorem dX0_isLeap_17 : decode cX0_isLeap 17 = .ok (.irem, 1) := by decide +kernel
theorem dX0_isLeap_18 : decode cX0_isLeap 18 = .ok (.ifCond .ne 7, 3) := by decide +kernel
theorem dX0_isLeap_21 : decode cX0_isLeap 21 = .ok (.iconst 1, 1) := by decide +kernel
theorem dX0_isLeap_22 : decode cX0_isLeap 22 = .ok (.goto 4, 3) := by decide +kernel
theorem dX0_isLeap_25 : decode cX0_isLeap 25 = .ok (.iconst 0, 1) := by decide +kernel
theorem dX0_isLeap_26 : decode cX0_isLeap 26 = .ok (.ireturn, 1) := by decide +kernel
set_option maxHeartbeats 4000000 in
set_option maxRecDepth 20000 in
theorem c_X0_isLeap (tys : List (ClassId × FieldType)) (ws : va_W) (p0 : Int32) : mCt tys yX0_isLeap cX0_isLeap 1 (some .boolean) ⟨0, 0, 0, 0⟩ [.int p0] ws (mRb ws) mNo := by
  refine mCt.of (by decide +kernel) (Nat.le_of_ble_eq_true rfl) (fun X hX hE => ?_)
  have hX : mOK X RX0 cX0_isLeap 1 ⟨0, 0, 0, 0⟩ [] tys := hX
  refine r_iload_n hX dX0_isLeap_0 rfl rfl ?_
  refine r_iconst (v := 4) hX dX0_isLeap_1 (by decide) ?_
  refine r_irem hX dX0_isLeap_2 (by first | decide | assumption) ?_
  refine r_if_ne (tgt := 25) hX dX0_isLeap_3 (by decide) (fun c1 => ?_) (fun c1 => ?_)
  · refine r_iconst (v := 0) hX dX0_isLeap_25 (by decide) ?_
    exact r_zret hX hE dX0_isLeap_26 (mB_n (Or.inl rfl)) (Nat.le_of_ble_eq_true rfl) (Nat.le_of_ble_eq_true rfl) ⟨_, (Or.inl rfl), rfl, rfl⟩
  · refine r_iload_n hX dX0_isLeap_6 rfl rfl ?_
    refine r_bipush (v := 100) hX dX0_isLeap_7 (by decide) ?_
    refine r_irem hX dX0_isLeap_9 (by first | decide | assumption) ?_
    refine r_if_ne (tgt := 21) hX dX0_isLeap_10 (by decide) (fun c2 => ?_) (fun c2 => ?_)
    · refine r_iconst (v := 1) hX dX0_isLeap_21 (by decide) ?_
      refine r_goto (tgt := 26) hX dX0_isLeap_22 (by decide) ?_
      exact r_zret hX hE dX0_isLeap_26 (mB_n (Or.inr rfl)) (Nat.le_of_ble_eq_true rfl) (Nat.le_of_ble_eq_true rfl) ⟨_, (Or.inr rfl), rfl, rfl⟩
    · refine r_iload_n hX dX0_isLeap_13 rfl rfl ?_
      refine r_sipush (v := 400) hX dX0_isLeap_14 (by decide) ?_
      refine r_irem hX dX0_isLeap_17 (by first | decide | assumption) ?_
      refine r_if_ne (tgt := 25) hX dX0_isLeap_18 (by decide) (fun c3 => ?_) (fun c3 => ?_)
      · refine r_iconst (v := 0) hX dX0_isLeap_25 (by decide) ?_
        exact r_zret hX hE dX0_isLeap_26 (mB_n (Or.inl rfl)) (Nat.le_of_ble_eq_true rfl) (Nat.le_of_ble_eq_true rfl) ⟨_, (Or.inl rfl), rfl, rfl⟩
      · refine r_iconst (v := 1) hX dX0_isLeap_21 (by decide) ?_
        refine r_goto (tgt := 26) hX dX0_isLeap_22 (by decide) ?_
        exact r_zret hX hE dX0_isLeap_26 (mB_n (Or.inr rfl)) (Nat.le_of_ble_eq_true rfl) (Nat.le_of_ble_eq_true rfl) ⟨_, (Or.inr rfl), rfl, rfl⟩
theorem dX0_lengthOfYear_0 : decode cX0_lengthOfYear 0 = .ok (.iload_n 0, 1) := by decide +kernel
theorem dX0_lengthOfYear_1 : decode cX0_lengthOfYear 1 = .ok (.invokestatic 9, 3) := by decide +kernel
theorem dX0_lengthOfYear_4 : decode cX0_lengthOfYear 4 = .ok (.ifCond .eq 9, 3) := by decide +kernel
theorem dX0_lengthOfYear_7 : decode cX0_lengthOfYear 7 = .ok (.sipush 366, 3) := by decide +kernel
theorem dX0_lengthOfYear_10 : decode cX0_lengthOfYear 10 = .ok (.goto 6, 3) := by decide +kernel
theorem dX0_lengthOfYear_13 : decode cX0_lengthOfYear 13 = .ok (.sipush 365, 3) := by decide +kernel
theorem dX0_lengthOfYear_16 : decode cX0_lengthOfYear 16 = .ok (.ireturn, 1) := by decide +kernel
set_option maxHeartbeats 4000000 in
set_option maxRecDepth 20000 in
theorem c_X0_lengthOfYear (tys : List (ClassId × FieldType)) (ws : va_W) (p0 : Int32) : mCt tys yX0_lengthOfYear cX0_lengthOfYear 1 (some .int) ⟨1, 0, 0, 20⟩ [.int p0] ws (mRi ws) mNo := by
  refine mCt.of (by decide +kernel) (Nat.le_of_ble_eq_true rfl) (fun X hX hE => ?_)
  have hX : mOK X RX0 cX0_lengthOfYear 1 ⟨1, 0, 0, 20⟩ [] tys := hX
  refine r_iload_n hX dX0_lengthOfYear_0 rfl rfl ?_
  refine r_callS hX (c_X0_isLeap _ _ _) ks_X0_9 rfl rfl (Nat.le_of_ble_eq_true rfl) ⟨(Nat.le_of_ble_eq_true rfl), (Nat.le_of_ble_eq_true rfl)⟩ ⟨(Nat.le_of_ble_eq_true rfl), (Nat.le_of_ble_eq_true rfl)⟩ dX0_lengthOfYear_1 (fun _ _ z => False.elim z) (fun v9 ws9 h1 => ?_)
  obtain ⟨r3, br3, rfl, hw9⟩ := h1
  subst ws9
  dsimp only [mPush]
  refine r_if_eq (tgt := 13) hX dX0_lengthOfYear_4 (by decide) (fun c4 => ?_) (fun c4 => ?_)
  · refine r_sipush (v := 365) hX dX0_lengthOfYear_13 (by decide) ?_
    exact r_iret hX hE dX0_lengthOfYear_16 (Nat.le_of_ble_eq_true rfl) (Nat.le_of_ble_eq_true rfl) ⟨_, rfl, rfl⟩
  · refine r_sipush (v := 366) hX dX0_lengthOfYear_7 (by decide) ?_
    refine r_goto (tgt := 16) hX dX0_lengthOfYear_10 (by decide) ?_
    exact r_iret hX hE dX0_lengthOfYear_16 (Nat.le_of_ble_eq_true rfl) (Nat.le_of_ble_eq_true rfl) ⟨_, rfl, rfl⟩
theorem dX0_lengthOfMonth_0 : decode cX0_lengthOfMonth 0 = .ok (.iload_n 1, 1) := by decide +kernel
theorem dX0_lengthOfMonth_1 : decode cX0_lengthOfMonth 1 = .ok (.tableswitch 73 2 11 #[55, 73, 70, 73, 70, 73, 73, 70, 73, 70], 55) := by decide +kernel
theorem dX0_lengthOfMonth_56 : decode cX0_lengthOfMonth 56 = .ok (.iload_n 0, 1) := by decide +kernel
theorem dX0_lengthOfMonth_57 : decode cX0_lengthOfMonth 57 = .ok (.invokestatic 9, 3) := by decide +kernel
theorem dX0_lengthOfMonth_60 : decode cX0_lengthOfMonth 60 = .ok (.ifCond .eq 8, 3) := by decide +kernel
theorem dX0_lengthOfMonth_63 : decode cX0_lengthOfMonth 63 = .ok (.bipush 29, 2) := by decide +kernel
theorem dX0_lengthOfMonth_65 : decode cX0_lengthOfMonth 65 = .ok (.goto 5, 3) := by decide +kernel
theorem dX0_lengthOfMonth_68 : decode cX0_lengthOfMonth 68 = .ok (.bipush 28, 2) := by decide +kernel
theorem dX0_lengthOfMonth_70 : decode cX0_lengthOfMonth 70 = .ok (.ireturn, 1) := by decide +kernel
theorem dX0_lengthOfMonth_71 : decode cX0_lengthOfMonth 71 = .ok (.bipush 30, 2) := by decide +kernel
theorem dX0_lengthOfMonth_73 : decode cX0_lengthOfMonth 73 = .ok (.ireturn, 1) := by decide +kernel
theorem dX0_lengthOfMonth_74 : decode cX0_lengthOfMonth 74 = .ok (.bipush 31, 2) := by decide +kernel
theorem dX0_lengthOfMonth_76 : decode cX0_lengthOfMonth 76 = .ok (.ireturn, 1) := by decide +kernel
set_option maxHeartbeats 4000000 in
set_option maxRecDepth 20000 in
theorem c_X0_lengthOfMonth (tys : List (ClassId × FieldType)) (ws : va_W) (p0 : Int32) (p1 : Int32) : mCt tys yX0_lengthOfMonth cX0_lengthOfMonth 2 (some .int) ⟨1, 0, 0, 20⟩ [.int p0, .int p1] ws (mRi ws) mNo := by
  refine mCt.of (by decide +kernel) (Nat.le_of_ble_eq_true rfl) (fun X hX hE => ?_)
  have hX : mOK X RX0 cX0_lengthOfMonth 2 ⟨1, 0, 0, 20⟩ [] tys := hX
  refine r_iload_n hX dX0_lengthOfMonth_0 rfl rfl ?_
  by_cases s1 : p1.toInt = 2
  · refine r_tableIn (off := 55) (tgt := 56) hX dX0_lengthOfMonth_1 (by omega) (by omega) (by rw [s1]; rfl) (by decide) ?_
    refine r_iload_n hX dX0_lengthOfMonth_56 rfl rfl ?_
    refine r_callS hX (c_X0_isLeap _ _ _) ks_X0_9 rfl rfl (Nat.le_of_ble_eq_true rfl) ⟨(Nat.le_of_ble_eq_true rfl), (Nat.le_of_ble_eq_true rfl)⟩ ⟨(Nat.le_of_ble_eq_true rfl), (Nat.le_of_ble_eq_true rfl)⟩ dX0_lengthOfMonth_57 (fun _ _ z => False.elim z) (fun v9 ws9 h2 => ?_)
    obtain ⟨r4, br4, rfl, hw9⟩ := h2
    subst ws9
    dsimp only [mPush]
    refine r_if_eq (tgt := 68) hX dX0_lengthOfMonth_60 (by decide) (fun c5 => ?_) (fun c5 => ?_)
    · refine r_bipush (v := 28) hX dX0_lengthOfMonth_68 (by decide) ?_
      exact r_iret hX hE dX0_lengthOfMonth_70 (Nat.le_of_ble_eq_true rfl) (Nat.le_of_ble_eq_true rfl) ⟨_, rfl, rfl⟩
    · refine r_bipush (v := 29) hX dX0_lengthOfMonth_63 (by decide) ?_
      refine r_goto (tgt := 70) hX dX0_lengthOfMonth_65 (by decide) ?_
      exact r_iret hX hE dX0_lengthOfMonth_70 (Nat.le_of_ble_eq_true rfl) (Nat.le_of_ble_eq_true rfl) ⟨_, rfl, rfl⟩
  by_cases s6 : p1.toInt = 3
  · refine r_tableIn (off := 73) (tgt := 74) hX dX0_lengthOfMonth_1 (by omega) (by omega) (by rw [s6]; rfl) (by decide) ?_
    refine r_bipush (v := 31) hX dX0_lengthOfMonth_74 (by decide) ?_
    exact r_iret hX hE dX0_lengthOfMonth_76 (Nat.le_of_ble_eq_true rfl) (Nat.le_of_ble_eq_true rfl) ⟨_, rfl, rfl⟩
  by_cases s7 : p1.toInt = 4
  · refine r_tableIn (off := 70) (tgt := 71) hX dX0_lengthOfMonth_1 (by omega) (by omega) (by rw [s7]; rfl) (by decide) ?_
    refine r_bipush (v := 30) hX dX0_lengthOfMonth_71 (by decide) ?_
    exact r_iret hX hE dX0_lengthOfMonth_73 (Nat.le_of_ble_eq_true rfl) (Nat.le_of_ble_eq_true rfl) ⟨_, rfl, rfl⟩
  by_cases s8 : p1.toInt = 5
  · refine r_tableIn (off := 73) (tgt := 74) hX dX0_lengthOfMonth_1 (by omega) (by omega) (by rw [s8]; rfl) (by decide) ?_
    refine r_bipush (v := 31) hX dX0_lengthOfMonth_74 (by decide) ?_
    exact r_iret hX hE dX0_lengthOfMonth_76 (Nat.le_of_ble_eq_true rfl) (Nat.le_of_ble_eq_true rfl) ⟨_, rfl, rfl⟩
  by_cases s9 : p1.toInt = 6
  · refine r_tableIn (off := 70) (tgt := 71) hX dX0_lengthOfMonth_1 (by omega) (by omega) (by rw [s9]; rfl) (by decide) ?_
    refine r_bipush (v := 30) hX dX0_lengthOfMonth_71 (by decide) ?_
    exact r_iret hX hE dX0_lengthOfMonth_73 (Nat.le_of_ble_eq_true rfl) (Nat.le_of_ble_eq_true rfl) ⟨_, rfl, rfl⟩
  by_cases s10 : p1.toInt = 7
  · refine r_tableIn (off := 73) (tgt := 74) hX dX0_lengthOfMonth_1 (by omega) (by omega) (by rw [s10]; rfl) (by decide) ?_
    refine r_bipush (v := 31) hX dX0_lengthOfMonth_74 (by decide) ?_
    exact r_iret hX hE dX0_lengthOfMonth_76 (Nat.le_of_ble_eq_true rfl) (Nat.le_of_ble_eq_true rfl) ⟨_, rfl, rfl⟩
  by_cases s11 : p1.toInt = 8
  · refine r_tableIn (off := 73) (tgt := 74) hX dX0_lengthOfMonth_1 (by omega) (by omega) (by rw [s11]; rfl) (by decide) ?_
    refine r_bipush (v := 31) hX dX0_lengthOfMonth_74 (by decide) ?_
    exact r_iret hX hE dX0_lengthOfMonth_76 (Nat.le_of_ble_eq_true rfl) (Nat.le_of_ble_eq_true rfl) ⟨_, rfl, rfl⟩
  by_cases s12 : p1.toInt = 9
  · refine r_tableIn (off := 70) (tgt := 71) hX dX0_lengthOfMonth_1 (by omega) (by omega) (by rw [s12]; rfl) (by decide) ?_
    refine r_bipush (v := 30) hX dX0_lengthOfMonth_71 (by decide) ?_
    exact r_iret hX hE dX0_lengthOfMonth_73 (Nat.le_of_ble_eq_true rfl) (Nat.le_of_ble_eq_true rfl) ⟨_, rfl, rfl⟩
  by_cases s13 : p1.toInt = 10
  · refine r_tableIn (off := 73) (tgt := 74) hX dX0_lengthOfMonth_1 (by omega) (by omega) (by rw [s13]; rfl) (by decide) ?_
    refine r_bipush (v := 31) hX dX0_lengthOfMonth_74 (by decide) ?_
    exact r_iret hX hE dX0_lengthOfMonth_76 (Nat.le_of_ble_eq_true rfl) (Nat.le_of_ble_eq_true rfl) ⟨_, rfl, rfl⟩
  by_cases s14 : p1.toInt = 11
  · refine r_tableIn (off := 70) (tgt := 71) hX dX0_lengthOfMonth_1 (by omega) (by omega) (by rw [s14]; rfl) (by decide) ?_
    refine r_bipush (v := 30) hX dX0_lengthOfMonth_71 (by decide) ?_
    exact r_iret hX hE dX0_lengthOfMonth_73 (Nat.le_of_ble_eq_true rfl) (Nat.le_of_ble_eq_true rfl) ⟨_, rfl, rfl⟩
  refine r_tableOut (tgt := 74) hX dX0_lengthOfMonth_1 (by omega) (by decide) ?_
  refine r_bipush (v := 31) hX dX0_lengthOfMonth_74 (by decide) ?_
  exact r_iret hX hE dX0_lengthOfMonth_76 (Nat.le_of_ble_eq_true rfl) (Nat.le_of_ble_eq_true rfl) ⟨_, rfl, rfl⟩
theorem dX0_isDay_0 : decode cX0_isDay 0 = .ok (.iload_n 1, 1) := by decide +kernel
theorem dX0_isDay_1 : decode cX0_isDay 1 = .ok (.i2l, 1) := by decide +kernel
theorem dX0_isDay_2 : decode cX0_isDay 2 = .ok (.lconst 1, 1) := by decide +kernel
theorem dX0_isDay_3 : decode cX0_isDay 3 = .ok (.ldc2_w 15, 3) := by decide +kernel
theorem dX0_isDay_6 : decode cX0_isDay 6 = .ok (.invokestatic 17, 3) := by decide +kernel
theorem dX0_isDay_9 : decode cX0_isDay 9 = .ok (.ifCond .eq 22, 3) := by decide +kernel
theorem dX0_isDay_12 : decode cX0_isDay 12 = .ok (.iload_n 2, 1) := by decide +kernel
theorem dX0_isDay_13 : decode cX0_isDay 13 = .ok (.i2l, 1) := by decide +kernel
theorem dX0_isDay_14 : decode cX0_isDay 14 = .ok (.lconst 1, 1) := by decide +kernel
theorem dX0_isDay_15 : decode cX0_isDay 15 = .ok (.iload_n 0, 1) := by decide +kernel
theorem dX0_isDay_16 : decode cX0_isDay 16 = .ok (.iload_n 1, 1) := by decide +kernel
theorem dX0_isDay_17 : decode cX0_isDay 17 = .ok (.invokestatic 21, 3) := by decide +kernel
theorem dX0_isDay_20 : decode cX0_isDay 20 = .ok (.i2l, 1) := by decide +kernel
theorem dX0_isDay_21 : decode cX0_isDay 21 = .ok (.invokestatic 17, 3) := by decide +kernel
theorem dX0_isDay_24 : decode cX0_isDay 24 = .ok (.ifCond .eq 7, 3) := by decide +kernel
theorem dX0_isDay_27 : decode cX0_isDay 27 = .ok (.iconst 1, 1) := by decide +kernel
theorem dX0_isDay_28 : decode cX0_isDay 28 = .ok (.goto 4, 3) := by decide +kernel
theorem dX0_isDay_31 : decode cX0_isDay 31 = .ok (.iconst 0, 1) := by decide +kernel
theorem dX0_isDay_32 : decode cX0_isDay 32 = .ok (.ireturn, 1) := by decide +kernel
set_option maxHeartbeats 4000000 in
set_option maxRecDepth 20000 in
theorem c_X0_isDay (tys : List (ClassId × FieldType)) (ws : va_W) (p0 : Int32) (p1 : Int32) (p2 : Int32) : mCt tys yX0_isDay cX0_isDay 3 (some .boolean) ⟨2, 0, 0, 41⟩ [.int p0, .int p1, .int p2] ws (mRb ws) mNo := by
  refine mCt.of (by decide +kernel) (Nat.le_of_ble_eq_true rfl) (fun X hX hE => ?_)
  have hX : mOK X RX0 cX0_isDay 3 ⟨2, 0, 0, 41⟩ [] tys := hX
  refine r_iload_n hX dX0_isDay_0 rfl rfl ?_
  refine r_i2l hX dX0_isDay_1 ?_
  refine r_lconst (v := 1) hX dX0_isDay_2 (by decide) ?_
  refine r_ldc2 hX kc_X0_15 dX0_isDay_3 ?_
  refine r_callN hX (c_X2_isWithin _ _ _ _ _) kn_X0_17 rfl rfl (Nat.le_of_ble_eq_true rfl) ⟨(Nat.le_of_ble_eq_true rfl), (Nat.le_of_ble_eq_true rfl)⟩ ⟨(Nat.le_of_ble_eq_true rfl), (Nat.le_of_ble_eq_true rfl)⟩ dX0_isDay_6 (fun _ _ z => False.elim z) (fun v9 ws9 h1 => ?_)
  obtain ⟨rfl, hw9⟩ := h1
  subst ws9
  dsimp only [mPush]
  refine r_if_eq (tgt := 31) hX dX0_isDay_9 (by decide) (fun c3 => ?_) (fun c3 => ?_)
  · refine r_iconst (v := 0) hX dX0_isDay_31 (by decide) ?_
    exact r_zret hX hE dX0_isDay_32 (mB_n (Or.inl rfl)) (Nat.le_of_ble_eq_true rfl) (Nat.le_of_ble_eq_true rfl) ⟨_, (Or.inl rfl), rfl, rfl⟩
  · refine r_iload_n hX dX0_isDay_12 rfl rfl ?_
    refine r_i2l hX dX0_isDay_13 ?_
    refine r_lconst (v := 1) hX dX0_isDay_14 (by decide) ?_
    refine r_iload_n hX dX0_isDay_15 rfl rfl ?_
    refine r_iload_n hX dX0_isDay_16 rfl rfl ?_
    refine r_callS hX (c_X0_lengthOfMonth _ _ _ _) ks_X0_21 rfl rfl (Nat.le_of_ble_eq_true rfl) ⟨(Nat.le_of_ble_eq_true rfl), (Nat.le_of_ble_eq_true rfl)⟩ ⟨(Nat.le_of_ble_eq_true rfl), (Nat.le_of_ble_eq_true rfl)⟩ dX0_isDay_17 (fun _ _ z => False.elim z) (fun v9 ws9 h4 => ?_)
    obtain ⟨r6, rfl, hw9⟩ := h4
    subst ws9
    dsimp only [mPush]
    refine r_i2l hX dX0_isDay_20 ?_
    refine r_callN hX (c_X2_isWithin _ _ _ _ _) kn_X0_17 rfl rfl (Nat.le_of_ble_eq_true rfl) ⟨(Nat.le_of_ble_eq_true rfl), (Nat.le_of_ble_eq_true rfl)⟩ ⟨(Nat.le_of_ble_eq_true rfl), (Nat.le_of_ble_eq_true rfl)⟩ dX0_isDay_21 (fun _ _ z => False.elim z) (fun v9 ws9 h7 => ?_)
    obtain ⟨rfl, hw9⟩ := h7
    subst ws9
    dsimp only [mPush]
    refine r_if_eq (tgt := 31) hX dX0_isDay_24 (by decide) (fun c9 => ?_) (fun c9 => ?_)
    · refine r_iconst (v := 0) hX dX0_isDay_31 (by decide) ?_
      exact r_zret hX hE dX0_isDay_32 (mB_n (Or.inl rfl)) (Nat.le_of_ble_eq_true rfl) (Nat.le_of_ble_eq_true rfl) ⟨_, (Or.inl rfl), rfl, rfl⟩
    · refine r_iconst (v := 1) hX dX0_isDay_27 (by decide) ?_
      refine r_goto (tgt := 32) hX dX0_isDay_28 (by decide) ?_
      exact r_zret hX hE dX0_isDay_32 (mB_n (Or.inr rfl)) (Nat.le_of_ble_eq_true rfl) (Nat.le_of_ble_eq_true rfl) ⟨_, (Or.inr rfl), rfl, rfl⟩
theorem dX0_firstDayOf_0 : decode cX0_firstDayOf 0 = .ok (.iload_n 0, 1) := by decide +kernel
theorem dX0_firstDayOf_1 : decode cX0_firstDayOf 1 = .ok (.iconst 1, 1) := by decide +kernel
theorem dX0_firstDayOf_2 : decode cX0_firstDayOf 2 = .ok (.isub, 1) := by decide +kernel
theorem dX0_firstDayOf_3 : decode cX0_firstDayOf 3 = .ok (.istore_n 1, 1) := by decide +kernel
theorem dX0_firstDayOf_4 : decode cX0_firstDayOf 4 = .ok (.iload_n 1, 1) := by decide +kernel
theorem dX0_firstDayOf_5 : decode cX0_firstDayOf 5 = .ok (.sipush 365, 3) := by decide +kernel
theorem dX0_firstDayOf_8 : decode cX0_firstDayOf 8 = .ok (.imul, 1) := by decide +kernel
theorem dX0_firstDayOf_9 : decode cX0_firstDayOf 9 = .ok (.iload_n 1, 1) := by decide +kernel
theorem dX0_firstDayOf_10 : decode cX0_firstDayOf 10 = .ok (.iconst 4, 1) := by decide +kernel
theorem dX0_firstDayOf_11 : decode cX0_firstDayOf 11 = .ok (.idiv, 1) := by decide +kernel
theorem dX0_firstDayOf_12 : decode cX0_firstDayOf 12 = .ok (.iadd, 1) := by decide +kernel
theorem dX0_firstDayOf_13 : decode cX0_firstDayOf 13 = .ok (.iload_n 1, 1) := by decide +kernel
theorem dX0_firstDayOf_14 : decode cX0_firstDayOf 14 = .ok (.bipush 100, 2) := by decide +kernel
theorem dX0_firstDayOf_16 : decode cX0_firstDayOf 16 = .ok (.idiv, 1) := by decide +kernel
theorem dX0_firstDayOf_17 : decode cX0_firstDayOf 17 = .ok (.isub, 1) := by decide +kernel
theorem dX0_firstDayOf_18 : decode cX0_firstDayOf 18 = .ok (.iload_n 1, 1) := by decide +kernel
theorem dX0_firstDayOf_19 : decode cX0_firstDayOf 19 = .ok (.sipush 400, 3) := by decide +kernel
theorem dX0_firstDayOf_22 : decode cX0_firstDayOf 22 = .ok (.idiv, 1) := by decide +kernel
theorem dX0_firstDayOf_23 : decode cX0_firstDayOf 23 = .ok (.iadd, 1) := by decide +kernel
theorem dX0_firstDayOf_24 : decode cX0_firstDayOf 24 = .ok (.ldc 25, 2) := by decide +kernel
theorem dX0_firstDayOf_26 : decode cX0_firstDayOf 26 = .ok (.isub, 1) := by decide +kernel
theorem dX0_firstDayOf_27 : decode cX0_firstDayOf 27 = .ok (.ireturn, 1) := by decide +kernel
set_option maxHeartbeats 4000000 in
set_option maxRecDepth 20000 in
theorem c_X0_firstDayOf (tys : List (ClassId × FieldType)) (ws : va_W) (p0 : Int32) : mCt tys yX0_firstDayOf cX0_firstDayOf 2 (some .int) ⟨0, 0, 0, 0⟩ [.int p0] ws (mRi ws) mNo := by
  refine mCt.of (by decide +kernel) (Nat.le_of_ble_eq_true rfl) (fun X hX hE => ?_)
  have hX : mOK X RX0 cX0_firstDayOf 2 ⟨0, 0, 0, 0⟩ [] tys := hX
  refine r_iload_n hX dX0_firstDayOf_0 rfl rfl ?_
  refine r_iconst (v := 1) hX dX0_firstDayOf_1 (by decide) ?_
  refine r_isub hX dX0_firstDayOf_2 ?_
  refine r_istore_n hX dX0_firstDayOf_3 rfl (by decide) rfl ?_
  refine r_iload_n hX dX0_firstDayOf_4 rfl rfl ?_
  refine r_sipush (v := 365) hX dX0_firstDayOf_5 (by decide) ?_
  refine r_imul hX dX0_firstDayOf_8 ?_
  refine r_iload_n hX dX0_firstDayOf_9 rfl rfl ?_
  refine r_iconst (v := 4) hX dX0_firstDayOf_10 (by decide) ?_
  refine r_idiv hX dX0_firstDayOf_11 (by first | decide | assumption) ?_
  refine r_iadd hX dX0_firstDayOf_12 ?_
  refine r_iload_n hX dX0_firstDayOf_13 rfl rfl ?_
  refine r_bipush (v := 100) hX dX0_firstDayOf_14 (by decide) ?_
  refine r_idiv hX dX0_firstDayOf_16 (by first | decide | assumption) ?_
  refine r_isub hX dX0_firstDayOf_17 ?_
  refine r_iload_n hX dX0_firstDayOf_18 rfl rfl ?_
  refine r_sipush (v := 400) hX dX0_firstDayOf_19 (by decide) ?_
  refine r_idiv hX dX0_firstDayOf_22 (by first | decide | assumption) ?_
  refine r_iadd hX dX0_firstDayOf_23 ?_
  refine r_ldc hX kc_X0_25 dX0_firstDayOf_24 ?_
  refine r_isub hX dX0_firstDayOf_26 ?_
  exact r_iret hX hE dX0_firstDayOf_27 (Nat.le_of_ble_eq_true rfl) (Nat.le_of_ble_eq_true rfl) ⟨_, rfl, rfl⟩
theorem dX0_daysBeforeMonth_0 : decode cX0_daysBeforeMonth 0 = .ok (.sipush 367, 3) := by decide +kernel
theorem dX0_daysBeforeMonth_3 : decode cX0_daysBeforeMonth 3 = .ok (.iload_n 1, 1) := by decide +kernel
theorem dX0_daysBeforeMonth_4 : decode cX0_daysBeforeMonth 4 = .ok (.imul, 1) := by decide +kernel
theorem dX0_daysBeforeMonth_5 : decode cX0_daysBeforeMonth 5 = .ok (.sipush 362, 3) := by decide +kernel
theorem dX0_daysBeforeMonth_8 : decode cX0_daysBeforeMonth 8 = .ok (.isub, 1) := by decide +kernel
theorem dX0_daysBeforeMonth_9 : decode cX0_daysBeforeMonth 9 = .ok (.bipush 12, 2) := by decide +kernel
theorem dX0_daysBeforeMonth_11 : decode cX0_daysBeforeMonth 11 = .ok (.idiv, 1) := by decide +kernel
theorem dX0_daysBeforeMonth_12 : decode cX0_daysBeforeMonth 12 = .ok (.istore_n 2, 1) := by decide +kernel
theorem dX0_daysBeforeMonth_13 : decode cX0_daysBeforeMonth 13 = .ok (.iload_n 1, 1) := by decide +kernel
theorem dX0_daysBeforeMonth_14 : decode cX0_daysBeforeMonth 14 = .ok (.iconst 2, 1) := by decide +kernel
theorem dX0_daysBeforeMonth_15 : decode cX0_daysBeforeMonth 15 = .ok (.if_icmp .gt 7, 3) := by decide +kernel
theorem dX0_daysBeforeMonth_18 : decode cX0_daysBeforeMonth 18 = .ok (.iload_n 2, 1) := by decide +kernel
theorem dX0_daysBeforeMonth_19 : decode cX0_daysBeforeMonth 19 = .ok (.goto 19, 3) := by decide +kernel
theorem dX0_daysBeforeMonth_22 : decode cX0_daysBeforeMonth 22 = .ok (.iload_n 0, 1) := by decide +kernel
theorem dX0_daysBeforeMonth_23 : decode cX0_daysBeforeMonth 23 = .ok (.invokestatic 9, 3) := by decide +kernel
theorem dX0_daysBeforeMonth_26 : decode cX0_daysBeforeMonth 26 = .ok (.ifCond .eq 9, 3) := by decide +kernel
theorem dX0_daysBeforeMonth_29 : decode cX0_daysBeforeMonth 29 = .ok (.iload_n 2, 1) := by decide +kernel
theorem dX0_daysBeforeMonth_30 : decode cX0_daysBeforeMonth 30 = .ok (.iconst 1, 1) := by decide +kernel
theorem dX0_daysBeforeMonth_31 : decode cX0_daysBeforeMonth 31 = .ok (.isub, 1) := by decide +kernel
theorem dX0_daysBeforeMonth_32 : decode cX0_daysBeforeMonth 32 = .ok (.goto 6, 3) := by decide +kernel
theorem dX0_daysBeforeMonth_35 : decode cX0_daysBeforeMonth 35 = .ok (.iload_n 2, 1) := by decide +kernel
theorem dX0_daysBeforeMonth_36 : decode cX0_daysBeforeMonth 36 = .ok (.iconst 2, 1) := by decide +kernel
theorem dX0_daysBeforeMonth_37 : decode cX0_daysBeforeMonth 37 = .ok (.isub, 1) := by decide +kernel
theorem dX0_daysBeforeMonth_38 : decode cX0_daysBeforeMonth 38 = .ok (.ireturn, 1) := by decide +kernel
set_option maxHeartbeats 4000000 in
set_option maxRecDepth 20000 in
theorem c_X0_daysBeforeMonth (tys : List (ClassId × FieldType)) (ws : va_W) (p0 : Int32) (p1 : Int32) : mCt tys yX0_daysBeforeMonth cX0_daysBeforeMonth 3 (some .int) ⟨1, 0, 0, 20⟩ [.int p0, .int p1] ws (mRi ws) mNo := by
  refine mCt.of (by decide +kernel) (Nat.le_of_ble_eq_true rfl) (fun X hX hE => ?_)
  have hX : mOK X RX0 cX0_daysBeforeMonth 3 ⟨1, 0, 0, 20⟩ [] tys := hX
  refine r_sipush (v := 367) hX dX0_daysBeforeMonth_0 (by decide) ?_
  refine r_iload_n hX dX0_daysBeforeMonth_3 rfl rfl ?_
  refine r_imul hX dX0_daysBeforeMonth_4 ?_
  refine r_sipush (v := 362) hX dX0_daysBeforeMonth_5 (by decide) ?_
  refine r_isub hX dX0_daysBeforeMonth_8 ?_
  refine r_bipush (v := 12) hX dX0_daysBeforeMonth_9 (by decide) ?_
  refine r_idiv hX dX0_daysBeforeMonth_11 (by first | decide | assumption) ?_
  refine r_istore_n hX dX0_daysBeforeMonth_12 rfl (by decide) rfl ?_
  refine r_iload_n hX dX0_daysBeforeMonth_13 rfl rfl ?_
  refine r_iconst (v := 2) hX dX0_daysBeforeMonth_14 (by decide) ?_
  refine r_icmp_gt (tgt := 22) hX dX0_daysBeforeMonth_15 (by decide) (fun c1 => ?_) (fun c1 => ?_)
  · refine r_iload_n hX dX0_daysBeforeMonth_22 rfl rfl ?_
    refine r_callS hX (c_X0_isLeap _ _ _) ks_X0_9 rfl rfl (Nat.le_of_ble_eq_true rfl) ⟨(Nat.le_of_ble_eq_true rfl), (Nat.le_of_ble_eq_true rfl)⟩ ⟨(Nat.le_of_ble_eq_true rfl), (Nat.le_of_ble_eq_true rfl)⟩ dX0_daysBeforeMonth_23 (fun _ _ z => False.elim z) (fun v9 ws9 h2 => ?_)
    obtain ⟨r4, br4, rfl, hw9⟩ := h2
    subst ws9
    dsimp only [mPush]
    refine r_if_eq (tgt := 35) hX dX0_daysBeforeMonth_26 (by decide) (fun c5 => ?_) (fun c5 => ?_)
    · refine r_iload_n hX dX0_daysBeforeMonth_35 rfl rfl ?_
      refine r_iconst (v := 2) hX dX0_daysBeforeMonth_36 (by decide) ?_
      refine r_isub hX dX0_daysBeforeMonth_37 ?_
      exact r_iret hX hE dX0_daysBeforeMonth_38 (Nat.le_of_ble_eq_true rfl) (Nat.le_of_ble_eq_true rfl) ⟨_, rfl, rfl⟩
    · refine r_iload_n hX dX0_daysBeforeMonth_29 rfl rfl ?_
      refine r_iconst (v := 1) hX dX0_daysBeforeMonth_30 (by decide) ?_
      refine r_isub hX dX0_daysBeforeMonth_31 ?_
      refine r_goto (tgt := 38) hX dX0_daysBeforeMonth_32 (by decide) ?_
      exact r_iret hX hE dX0_daysBeforeMonth_38 (Nat.le_of_ble_eq_true rfl) (Nat.le_of_ble_eq_true rfl) ⟨_, rfl, rfl⟩
  · refine r_iload_n hX dX0_daysBeforeMonth_18 rfl rfl ?_
    refine r_goto (tgt := 38) hX dX0_daysBeforeMonth_19 (by decide) ?_
    exact r_iret hX hE dX0_daysBeforeMonth_38 (Nat.le_of_ble_eq_true rfl) (Nat.le_of_ble_eq_true rfl) ⟨_, rfl, rfl⟩
theorem dX0_dayOf_0 : decode cX0_dayOf 0 = .ok (.iload_n 0, 1) := by decide +kernel
theorem dX0_dayOf_1 : decode cX0_dayOf 1 = .ok (.invokestatic 26, 3) := by decide +kernel
theorem dX0_dayOf_4 : decode cX0_dayOf 4 = .ok (.iload_n 0, 1) := by decide +kernel
theorem dX0_dayOf_5 : decode cX0_dayOf 5 = .ok (.iload_n 1, 1) := by decide +kernel
theorem dX0_dayOf_6 : decode cX0_dayOf 6 = .ok (.invokestatic 30, 3) := by decide +kernel
theorem dX0_dayOf_9 : decode cX0_dayOf 9 = .ok (.iadd, 1) := by decide +kernel
theorem dX0_dayOf_10 : decode cX0_dayOf 10 = .ok (.iload_n 2, 1) := by decide +kernel
theorem dX0_dayOf_11 : decode cX0_dayOf 11 = .ok (.iadd, 1) := by decide +kernel
theorem dX0_dayOf_12 : decode cX0_dayOf 12 = .ok (.iconst 1, 1) := by decide +kernel
theorem dX0_dayOf_13 : decode cX0_dayOf 13 = .ok (.isub, 1) := by decide +kernel
theorem dX0_dayOf_14 : decode cX0_dayOf 14 = .ok (.ireturn, 1) := by decide +kernel
set_option maxHeartbeats 4000000 in
set_option maxRecDepth 20000 in
theorem c_X0_dayOf (tys : List (ClassId × FieldType)) (ws : va_W) (p0 : Int32) (p1 : Int32) (p2 : Int32) : mCt tys yX0_dayOf cX0_dayOf 3 (some .int) ⟨2, 0, 0, 42⟩ [.int p0, .int p1, .int p2] ws (mRi ws) mNo := by
  refine mCt.of (by decide +kernel) (Nat.le_of_ble_eq_true rfl) (fun X hX hE => ?_)
  have hX : mOK X RX0 cX0_dayOf 3 ⟨2, 0, 0, 42⟩ [] tys := hX
  refine r_iload_n hX dX0_dayOf_0 rfl rfl ?_
  refine r_callS hX (c_X0_firstDayOf _ _ _) ks_X0_26 rfl rfl (Nat.le_of_ble_eq_true rfl) ⟨(Nat.le_of_ble_eq_true rfl), (Nat.le_of_ble_eq_true rfl)⟩ ⟨(Nat.le_of_ble_eq_true rfl), (Nat.le_of_ble_eq_true rfl)⟩ dX0_dayOf_1 (fun _ _ z => False.elim z) (fun v9 ws9 h1 => ?_)
  obtain ⟨r3, rfl, hw9⟩ := h1
  subst ws9
  dsimp only [mPush]
  refine r_iload_n hX dX0_dayOf_4 rfl rfl ?_
  refine r_iload_n hX dX0_dayOf_5 rfl rfl ?_
  refine r_callS hX (c_X0_daysBeforeMonth _ _ _ _) ks_X0_30 rfl rfl (Nat.le_of_ble_eq_true rfl) ⟨(Nat.le_of_ble_eq_true rfl), (Nat.le_of_ble_eq_true rfl)⟩ ⟨(Nat.le_of_ble_eq_true rfl), (Nat.le_of_ble_eq_true rfl)⟩ dX0_dayOf_6 (fun _ _ z => False.elim z) (fun v9 ws9 h4 => ?_)
  obtain ⟨r6, rfl, hw9⟩ := h4
  subst ws9
  dsimp only [mPush]
  refine r_iadd hX dX0_dayOf_9 ?_
  refine r_iload_n hX dX0_dayOf_10 rfl rfl ?_
  refine r_iadd hX dX0_dayOf_11 ?_
  refine r_iconst (v := 1) hX dX0_dayOf_12 (by decide) ?_
  refine r_isub hX dX0_dayOf_13 ?_
  exact r_iret hX hE dX0_dayOf_14 (Nat.le_of_ble_eq_true rfl) (Nat.le_of_ble_eq_true rfl) ⟨_, rfl, rfl⟩
theorem dX0_yearOf_0 : decode cX0_yearOf 0 = .ok (.sipush 1910, 3) := by decide +kernel
theorem dX0_yearOf_3 : decode cX0_yearOf 3 = .ok (.iload_n 0, 1) := by decide +kernel
theorem dX0_yearOf_4 : decode cX0_yearOf 4 = .ok (.sipush (-21915), 3) := by decide +kernel
theorem dX0_yearOf_7 : decode cX0_yearOf 7 = .ok (.isub, 1) := by decide +kernel
theorem dX0_yearOf_8 : decode cX0_yearOf 8 = .ok (.sipush 366, 3) := by decide +kernel
theorem dX0_yearOf_11 : decode cX0_yearOf 11 = .ok (.idiv, 1) := by decide +kernel
theorem dX0_yearOf_12 : decode cX0_yearOf 12 = .ok (.iadd, 1) := by decide +kernel
theorem dX0_yearOf_13 : decode cX0_yearOf 13 = .ok (.istore_n 1, 1) := by decide +kernel
theorem dX0_yearOf_14 : decode cX0_yearOf 14 = .ok (.iload_n 0, 1) := by decide +kernel
theorem dX0_yearOf_15 : decode cX0_yearOf 15 = .ok (.iload_n 1, 1) := by decide +kernel
theorem dX0_yearOf_16 : decode cX0_yearOf 16 = .ok (.iconst 1, 1) := by decide +kernel
theorem dX0_yearOf_17 : decode cX0_yearOf 17 = .ok (.iadd, 1) := by decide +kernel
theorem dX0_yearOf_18 : decode cX0_yearOf 18 = .ok (.invokestatic 26, 3) := by decide +kernel
theorem dX0_yearOf_21 : decode cX0_yearOf 21 = .ok (.if_icmp .ge 7, 3) := by decide +kernel
theorem dX0_yearOf_24 : decode cX0_yearOf 24 = .ok (.iload_n 1, 1) := by decide +kernel
theorem dX0_yearOf_25 : decode cX0_yearOf 25 = .ok (.goto 6, 3) := by decide +kernel
theorem dX0_yearOf_28 : decode cX0_yearOf 28 = .ok (.iload_n 1, 1) := by decide +kernel
theorem dX0_yearOf_29 : decode cX0_yearOf 29 = .ok (.iconst 1, 1) := by decide +kernel
theorem dX0_yearOf_30 : decode cX0_yearOf 30 = .ok (.iadd, 1) := by decide +kernel
theorem dX0_yearOf_31 : decode cX0_yearOf 31 = .ok (.ireturn, 1) := by decide +kernel
set_option maxHeartbeats 4000000 in
set_option maxRecDepth 20000 in
theorem c_X0_yearOf (tys : List (ClassId × FieldType)) (ws : va_W) (p0 : Int32) : mCt tys yX0_yearOf cX0_yearOf 2 (some .int) ⟨1, 0, 0, 21⟩ [.int p0] ws (mRi ws) mNo := by
  refine mCt.of (by decide +kernel) (Nat.le_of_ble_eq_true rfl) (fun X hX hE => ?_)
  have hX : mOK X RX0 cX0_yearOf 2 ⟨1, 0, 0, 21⟩ [] tys := hX
  refine r_sipush (v := 1910) hX dX0_yearOf_0 (by decide) ?_
  refine r_iload_n hX dX0_yearOf_3 rfl rfl ?_
  refine r_sipush (v := -21915) hX dX0_yearOf_4 (by decide) ?_
  refine r_isub hX dX0_yearOf_7 ?_
  refine r_sipush (v := 366) hX dX0_yearOf_8 (by decide) ?_
  refine r_idiv hX dX0_yearOf_11 (by first | decide | assumption) ?_
  refine r_iadd hX dX0_yearOf_12 ?_
  refine r_istore_n hX dX0_yearOf_13 rfl (by decide) rfl ?_
  refine r_iload_n hX dX0_yearOf_14 rfl rfl ?_
  refine r_iload_n hX dX0_yearOf_15 rfl rfl ?_
  refine r_iconst (v := 1) hX dX0_yearOf_16 (by decide) ?_
  refine r_iadd hX dX0_yearOf_17 ?_
  refine r_callS hX (c_X0_firstDayOf _ _ _) ks_X0_26 rfl rfl (Nat.le_of_ble_eq_true rfl) ⟨(Nat.le_of_ble_eq_true rfl), (Nat.le_of_ble_eq_true rfl)⟩ ⟨(Nat.le_of_ble_eq_true rfl), (Nat.le_of_ble_eq_true rfl)⟩ dX0_yearOf_18 (fun _ _ z => False.elim z) (fun v9 ws9 h1 => ?_)
  obtain ⟨r3, rfl, hw9⟩ := h1
  subst ws9
  dsimp only [mPush]
  refine r_icmp_ge (tgt := 28) hX dX0_yearOf_21 (by decide) (fun c4 => ?_) (fun c4 => ?_)
  · refine r_iload_n hX dX0_yearOf_28 rfl rfl ?_
    refine r_iconst (v := 1) hX dX0_yearOf_29 (by decide) ?_
    refine r_iadd hX dX0_yearOf_30 ?_
    exact r_iret hX hE dX0_yearOf_31 (Nat.le_of_ble_eq_true rfl) (Nat.le_of_ble_eq_true rfl) ⟨_, rfl, rfl⟩
  · refine r_iload_n hX dX0_yearOf_24 rfl rfl ?_
    refine r_goto (tgt := 31) hX dX0_yearOf_25 (by decide) ?_
    exact r_iret hX hE dX0_yearOf_31 (Nat.le_of_ble_eq_true rfl) (Nat.le_of_ble_eq_true rfl) ⟨_, rfl, rfl⟩
theorem dX0_dayOfYear_0 : decode cX0_dayOfYear 0 = .ok (.iload_n 0, 1) := by decide +kernel
theorem dX0_dayOfYear_1 : decode cX0_dayOfYear 1 = .ok (.iload_n 0, 1) := by decide +kernel
theorem dX0_dayOfYear_2 : decode cX0_dayOfYear 2 = .ok (.invokestatic 33, 3) := by decide +kernel
theorem dX0_dayOfYear_5 : decode cX0_dayOfYear 5 = .ok (.invokestatic 26, 3) := by decide +kernel
theorem dX0_dayOfYear_8 : decode cX0_dayOfYear 8 = .ok (.isub, 1) := by decide +kernel
theorem dX0_dayOfYear_9 : decode cX0_dayOfYear 9 = .ok (.iconst 1, 1) := by decide +kernel
theorem dX0_dayOfYear_10 : decode cX0_dayOfYear 10 = .ok (.iadd, 1) := by decide +kernel
theorem dX0_dayOfYear_11 : decode cX0_dayOfYear 11 = .ok (.ireturn, 1) := by decide +kernel
set_option maxHeartbeats 4000000 in
set_option maxRecDepth 20000 in
theorem c_X0_dayOfYear (tys : List (ClassId × FieldType)) (ws : va_W) (p0 : Int32) : mCt tys yX0_dayOfYear cX0_dayOfYear 1 (some .int) ⟨2, 0, 0, 42⟩ [.int p0] ws (mRi ws) mNo := by
  refine mCt.of (by decide +kernel) (Nat.le_of_ble_eq_true rfl) (fun X hX hE => ?_)
  have hX : mOK X RX0 cX0_dayOfYear 1 ⟨2, 0, 0, 42⟩ [] tys := hX
  refine r_iload_n hX dX0_dayOfYear_0 rfl rfl ?_
  refine r_iload_n hX dX0_dayOfYear_1 rfl rfl ?_
  refine r_callS hX (c_X0_yearOf _ _ _) ks_X0_33 rfl rfl (Nat.le_of_ble_eq_true rfl) ⟨(Nat.le_of_ble_eq_true rfl), (Nat.le_of_ble_eq_true rfl)⟩ ⟨(Nat.le_of_ble_eq_true rfl), (Nat.le_of_ble_eq_true rfl)⟩ dX0_dayOfYear_2 (fun _ _ z => False.elim z) (fun v9 ws9 h1 => ?_)
  obtain ⟨r3, rfl, hw9⟩ := h1
  subst ws9
  dsimp only [mPush]
  refine r_callS hX (c_X0_firstDayOf _ _ _) ks_X0_26 rfl rfl (Nat.le_of_ble_eq_true rfl) ⟨(Nat.le_of_ble_eq_true rfl), (Nat.le_of_ble_eq_true rfl)⟩ ⟨(Nat.le_of_ble_eq_true rfl), (Nat.le_of_ble_eq_true rfl)⟩ dX0_dayOfYear_5 (fun _ _ z => False.elim z) (fun v9 ws9 h4 => ?_)
  obtain ⟨r6, rfl, hw9⟩ := h4
  subst ws9
  dsimp only [mPush]
  refine r_isub hX dX0_dayOfYear_8 ?_
  refine r_iconst (v := 1) hX dX0_dayOfYear_9 (by decide) ?_
  refine r_iadd hX dX0_dayOfYear_10 ?_
  exact r_iret hX hE dX0_dayOfYear_11 (Nat.le_of_ble_eq_true rfl) (Nat.le_of_ble_eq_true rfl) ⟨_, rfl, rfl⟩
theorem dX0_monthOf_0 : decode cX0_monthOf 0 = .ok (.iload_n 0, 1) := by decide +kernel
theorem dX0_monthOf_1 : decode cX0_monthOf 1 = .ok (.invokestatic 33, 3) := by decide +kernel
theorem dX0_monthOf_4 : decode cX0_monthOf 4 = .ok (.istore_n 1, 1) := by decide +kernel
theorem dX0_monthOf_5 : decode cX0_monthOf 5 = .ok (.iload_n 0, 1) := by decide +kernel
theorem dX0_monthOf_6 : decode cX0_monthOf 6 = .ok (.iload_n 1, 1) := by decide +kernel
theorem dX0_monthOf_7 : decode cX0_monthOf 7 = .ok (.invokestatic 26, 3) := by decide +kernel
theorem dX0_monthOf_10 : decode cX0_monthOf 10 = .ok (.isub, 1) := by decide +kernel
theorem dX0_monthOf_11 : decode cX0_monthOf 11 = .ok (.istore_n 2, 1) := by decide +kernel
theorem dX0_monthOf_12 : decode cX0_monthOf 12 = .ok (.iconst 1, 1) := by decide +kernel
theorem dX0_monthOf_13 : decode cX0_monthOf 13 = .ok (.istore_n 3, 1) := by decide +kernel
theorem dX0_monthOf_14 : decode cX0_monthOf 14 = .ok (.iload_n 3, 1) := by decide +kernel
theorem dX0_monthOf_15 : decode cX0_monthOf 15 = .ok (.bipush 12, 2) := by decide +kernel
theorem dX0_monthOf_17 : decode cX0_monthOf 17 = .ok (.if_icmp .ge 20, 3) := by decide +kernel
theorem dX0_monthOf_20 : decode cX0_monthOf 20 = .ok (.iload_n 2, 1) := by decide +kernel
theorem dX0_monthOf_21 : decode cX0_monthOf 21 = .ok (.iload_n 1, 1) := by decide +kernel
theorem dX0_monthOf_22 : decode cX0_monthOf 22 = .ok (.iload_n 3, 1) := by decide +kernel
theorem dX0_monthOf_23 : decode cX0_monthOf 23 = .ok (.iconst 1, 1) := by decide +kernel
theorem dX0_monthOf_24 : decode cX0_monthOf 24 = .ok (.iadd, 1) := by decide +kernel
theorem dX0_monthOf_25 : decode cX0_monthOf 25 = .ok (.invokestatic 30, 3) := by decide +kernel
theorem dX0_monthOf_28 : decode cX0_monthOf 28 = .ok (.if_icmp .lt 9, 3) := by decide +kernel
theorem dX0_monthOf_31 : decode cX0_monthOf 31 = .ok (.iinc 3 1, 3) := by decide +kernel
theorem dX0_monthOf_34 : decode cX0_monthOf 34 = .ok (.goto (-20), 3) := by decide +kernel
theorem dX0_monthOf_37 : decode cX0_monthOf 37 = .ok (.iload_n 3, 1) := by decide +kernel
theorem dX0_monthOf_38 : decode cX0_monthOf 38 = .ok (.ireturn, 1) := by decide +kernel
set_option maxHeartbeats 4000000 in
set_option maxRecDepth 20000 in
theorem c_X0_monthOf (tys : List (ClassId × FieldType)) (ws : va_W) (p0 : Int32) : mCt tys yX0_monthOf cX0_monthOf 4 (some .int) ⟨2, 0, 0, 42⟩ [.int p0] ws (mRi ws) mNo := by
  refine mCt.of (by decide +kernel) (Nat.le_of_ble_eq_true rfl) (fun X hX hE => ?_)
  have hX : mOK X RX0 cX0_monthOf 4 ⟨2, 0, 0, 42⟩ [] tys := hX
  refine r_iload_n hX dX0_monthOf_0 rfl rfl ?_
  refine r_callS hX (c_X0_yearOf _ _ _) ks_X0_33 rfl rfl (Nat.le_of_ble_eq_true rfl) ⟨(Nat.le_of_ble_eq_true rfl), (Nat.le_of_ble_eq_true rfl)⟩ ⟨(Nat.le_of_ble_eq_true rfl), (Nat.le_of_ble_eq_true rfl)⟩ dX0_monthOf_1 (fun _ _ z => False.elim z) (fun v9 ws9 h1 => ?_)
  obtain ⟨r3, rfl, hw9⟩ := h1
  subst ws9
  dsimp only [mPush]
  refine r_istore_n hX dX0_monthOf_4 rfl (by decide) rfl ?_
  refine r_iload_n hX dX0_monthOf_5 rfl rfl ?_
  refine r_iload_n hX dX0_monthOf_6 rfl rfl ?_
  refine r_callS hX (c_X0_firstDayOf _ _ _) ks_X0_26 rfl rfl (Nat.le_of_ble_eq_true rfl) ⟨(Nat.le_of_ble_eq_true rfl), (Nat.le_of_ble_eq_true rfl)⟩ ⟨(Nat.le_of_ble_eq_true rfl), (Nat.le_of_ble_eq_true rfl)⟩ dX0_monthOf_7 (fun _ _ z => False.elim z) (fun v9 ws9 h4 => ?_)
  obtain ⟨r6, rfl, hw9⟩ := h4
  subst ws9
  dsimp only [mPush]
  refine r_isub hX dX0_monthOf_10 ?_
  refine r_istore_n hX dX0_monthOf_11 rfl (by decide) rfl ?_
  refine r_iconst (v := 1) hX dX0_monthOf_12 (by decide) ?_
  refine r_istore_n hX dX0_monthOf_13 rfl (by decide) rfl ?_
  have L14 : ∀ (N9 j7 : Nat) (x8 : Int32), 12 - j7 < N9 → j7 ≤ 12 → mV X 14 [(0, some (.int p0)), (1, some (.int r3)), (2, some (.int x8)), (3, some (.int (nI j7)))] [] ws 0 0 := by
    intro N9
    induction N9 with
    | zero => intro j7 x8; omega
    | succ N9 ih14 =>
      intro j7 x8 hN14 hj7e
      refine r_iload_n hX dX0_monthOf_14 rfl rfl ?_
      refine r_bipush (v := 12) hX dX0_monthOf_15 (by decide) ?_
      refine r_icmp_ge (tgt := 37) hX dX0_monthOf_17 (by decide) (fun c10 => ?_) (fun c10 => ?_)
      · refine r_iload_n hX dX0_monthOf_37 rfl rfl ?_
        exact r_iret hX hE dX0_monthOf_38 (Nat.le_of_ble_eq_true rfl) (Nat.le_of_ble_eq_true rfl) ⟨_, rfl, rfl⟩
      · have hj7 : j7 < 12 := mlt (by first | rfl | decide) (by decide) hj7e c10
        refine r_iload_n hX dX0_monthOf_20 rfl rfl ?_
        refine r_iload_n hX dX0_monthOf_21 rfl rfl ?_
        refine r_iload_n hX dX0_monthOf_22 rfl rfl ?_
        refine r_iconst (v := 1) hX dX0_monthOf_23 (by decide) ?_
        refine r_iadd hX dX0_monthOf_24 ?_
        refine r_callS hX (c_X0_daysBeforeMonth _ _ _ _) ks_X0_30 rfl rfl (Nat.le_of_ble_eq_true rfl) ⟨(Nat.le_of_ble_eq_true rfl), (Nat.le_of_ble_eq_true rfl)⟩ ⟨(Nat.le_of_ble_eq_true rfl), (Nat.le_of_ble_eq_true rfl)⟩ dX0_monthOf_25 (fun _ _ z => False.elim z) (fun v9 ws9 h11 => ?_)
        obtain ⟨r13, rfl, hw9⟩ := h11
        subst ws9
        dsimp only [mPush]
        refine r_icmp_lt (tgt := 37) hX dX0_monthOf_28 (by decide) (fun c14 => ?_) (fun c14 => ?_)
        · refine r_iload_n hX dX0_monthOf_37 rfl rfl ?_
          exact r_iret hX hE dX0_monthOf_38 (Nat.le_of_ble_eq_true rfl) (Nat.le_of_ble_eq_true rfl) ⟨_, rfl, rfl⟩
        · refine r_iinc hX dX0_monthOf_31 rfl (by decide) rfl ?_
          refine r_goto (tgt := 14) hX dX0_monthOf_34 (by decide) ?_
          exact r_loc (k' := 0) (n' := 0) (by exact ⟨rfl, rfl, rfl, nI_inc' _, trivial⟩) (by decide) (by decide) (ih14 (j7 + 1) _ (by omega) (by omega))
  exact r_loc (k' := 0) (n' := 0) (by exact ⟨rfl, rfl, rfl, rfl, trivial⟩) (by decide) (by decide) (L14 (12 + 1) 1 _ (by omega) (by omega))
theorem dX0_dayOfMonth_0 : decode cX0_dayOfMonth 0 = .ok (.iload_n 0, 1) := by decide +kernel
theorem dX0_dayOfMonth_1 : decode cX0_dayOfMonth 1 = .ok (.invokestatic 36, 3) := by decide +kernel
theorem dX0_dayOfMonth_4 : decode cX0_dayOfMonth 4 = .ok (.iload_n 0, 1) := by decide +kernel
theorem dX0_dayOfMonth_5 : decode cX0_dayOfMonth 5 = .ok (.invokestatic 33, 3) := by decide +kernel
theorem dX0_dayOfMonth_8 : decode cX0_dayOfMonth 8 = .ok (.iload_n 0, 1) := by decide +kernel
theorem dX0_dayOfMonth_9 : decode cX0_dayOfMonth 9 = .ok (.invokestatic 39, 3) := by decide +kernel
theorem dX0_dayOfMonth_12 : decode cX0_dayOfMonth 12 = .ok (.invokestatic 30, 3) := by decide +kernel
theorem dX0_dayOfMonth_15 : decode cX0_dayOfMonth 15 = .ok (.isub, 1) := by decide +kernel
theorem dX0_dayOfMonth_16 : decode cX0_dayOfMonth 16 = .ok (.ireturn, 1) := by decide +kernel
set_option maxHeartbeats 4000000 in
set_option maxRecDepth 20000 in
theorem c_X0_dayOfMonth (tys : List (ClassId × FieldType)) (ws : va_W) (p0 : Int32) : mCt tys yX0_dayOfMonth cX0_dayOfMonth 1 (some .int) ⟨3, 0, 0, 65⟩ [.int p0] ws (mRi ws) mNo := by
  refine mCt.of (by decide +kernel) (Nat.le_of_ble_eq_true rfl) (fun X hX hE => ?_)
  have hX : mOK X RX0 cX0_dayOfMonth 1 ⟨3, 0, 0, 65⟩ [] tys := hX
  refine r_iload_n hX dX0_dayOfMonth_0 rfl rfl ?_
  refine r_callS hX (c_X0_dayOfYear _ _ _) ks_X0_36 rfl rfl (Nat.le_of_ble_eq_true rfl) ⟨(Nat.le_of_ble_eq_true rfl), (Nat.le_of_ble_eq_true rfl)⟩ ⟨(Nat.le_of_ble_eq_true rfl), (Nat.le_of_ble_eq_true rfl)⟩ dX0_dayOfMonth_1 (fun _ _ z => False.elim z) (fun v9 ws9 h1 => ?_)
  obtain ⟨r3, rfl, hw9⟩ := h1
  subst ws9
  dsimp only [mPush]
  refine r_iload_n hX dX0_dayOfMonth_4 rfl rfl ?_
  refine r_callS hX (c_X0_yearOf _ _ _) ks_X0_33 rfl rfl (Nat.le_of_ble_eq_true rfl) ⟨(Nat.le_of_ble_eq_true rfl), (Nat.le_of_ble_eq_true rfl)⟩ ⟨(Nat.le_of_ble_eq_true rfl), (Nat.le_of_ble_eq_true rfl)⟩ dX0_dayOfMonth_5 (fun _ _ z => False.elim z) (fun v9 ws9 h4 => ?_)
  obtain ⟨r6, rfl, hw9⟩ := h4
  subst ws9
  dsimp only [mPush]
  refine r_iload_n hX dX0_dayOfMonth_8 rfl rfl ?_
  refine r_callS hX (c_X0_monthOf _ _ _) ks_X0_39 rfl rfl (Nat.le_of_ble_eq_true rfl) ⟨(Nat.le_of_ble_eq_true rfl), (Nat.le_of_ble_eq_true rfl)⟩ ⟨(Nat.le_of_ble_eq_true rfl), (Nat.le_of_ble_eq_true rfl)⟩ dX0_dayOfMonth_9 (fun _ _ z => False.elim z) (fun v9 ws9 h7 => ?_)
  obtain ⟨r9, rfl, hw9⟩ := h7
  subst ws9
  dsimp only [mPush]
  refine r_callS hX (c_X0_daysBeforeMonth _ _ _ _) ks_X0_30 rfl rfl (Nat.le_of_ble_eq_true rfl) ⟨(Nat.le_of_ble_eq_true rfl), (Nat.le_of_ble_eq_true rfl)⟩ ⟨(Nat.le_of_ble_eq_true rfl), (Nat.le_of_ble_eq_true rfl)⟩ dX0_dayOfMonth_12 (fun _ _ z => False.elim z) (fun v9 ws9 h10 => ?_)
  obtain ⟨r12, rfl, hw9⟩ := h10
  subst ws9
  dsimp only [mPush]
  refine r_isub hX dX0_dayOfMonth_15 ?_
  exact r_iret hX hE dX0_dayOfMonth_16 (Nat.le_of_ble_eq_true rfl) (Nat.le_of_ble_eq_true rfl) ⟨_, rfl, rfl⟩
theorem dX0_dayOfWeek_0 : decode cX0_dayOfWeek 0 = .ok (.iload_n 0, 1) := by decide +kernel
theorem dX0_dayOfWeek_1 : decode cX0_dayOfWeek 1 = .ok (.iconst 3, 1) := by decide +kernel
theorem dX0_dayOfWeek_2 : decode cX0_dayOfWeek 2 = .ok (.iadd, 1) := by decide +kernel
theorem dX0_dayOfWeek_3 : decode cX0_dayOfWeek 3 = .ok (.bipush 7, 2) := by decide +kernel
theorem dX0_dayOfWeek_5 : decode cX0_dayOfWeek 5 = .ok (.invokestatic 42, 3) := by decide +kernel
theorem dX0_dayOfWeek_8 : decode cX0_dayOfWeek 8 = .ok (.iconst 1, 1) := by decide +kernel
theorem dX0_dayOfWeek_9 : decode cX0_dayOfWeek 9 = .ok (.iadd, 1) := by decide +kernel
theorem dX0_dayOfWeek_10 : decode cX0_dayOfWeek 10 = .ok (.ireturn, 1) := by decide +kernel
set_option maxHeartbeats 4000000 in
set_option maxRecDepth 20000 in
theorem c_X0_dayOfWeek (tys : List (ClassId × FieldType)) (ws : va_W) (p0 : Int32) : mCt tys yX0_dayOfWeek cX0_dayOfWeek 1 (some .int) ⟨1, 0, 0, 22⟩ [.int p0] ws (mRi ws) mNo := by
  refine mCt.of (by decide +kernel) (Nat.le_of_ble_eq_true rfl) (fun X hX hE => ?_)
  have hX : mOK X RX0 cX0_dayOfWeek 1 ⟨1, 0, 0, 22⟩ [] tys := hX
  refine r_iload_n hX dX0_dayOfWeek_0 rfl rfl ?_
  refine r_iconst (v := 3) hX dX0_dayOfWeek_1 (by decide) ?_
  refine r_iadd hX dX0_dayOfWeek_2 ?_
  refine r_bipush (v := 7) hX dX0_dayOfWeek_3 (by decide) ?_
  refine r_callS hX (c_J9_floorMod_7cf53 _ _ _ _ (by decide)) ks_X0_42 rfl rfl (Nat.le_of_ble_eq_true rfl) ⟨(Nat.le_of_ble_eq_true rfl), (Nat.le_of_ble_eq_true rfl)⟩ ⟨(Nat.le_of_ble_eq_true rfl), (Nat.le_of_ble_eq_true rfl)⟩ dX0_dayOfWeek_5 (fun _ _ z => False.elim z) (fun v9 ws9 h1 => ?_)
  obtain ⟨r3, rfl, hw9⟩ := h1
  subst ws9
  dsimp only [mPush]
  refine r_iconst (v := 1) hX dX0_dayOfWeek_8 (by decide) ?_
  refine r_iadd hX dX0_dayOfWeek_9 ?_
  exact r_iret hX hE dX0_dayOfWeek_10 (Nat.le_of_ble_eq_true rfl) (Nat.le_of_ble_eq_true rfl) ⟨_, rfl, rfl⟩
theorem dX2_compared_0 : decode cX2_compared 0 = .ok (.lload_n 0, 1) := by decide +kernel
theorem dX2_compared_1 : decode cX2_compared 1 = .ok (.lload_n 2, 1) := by decide +kernel
theorem dX2_compared_2 : decode cX2_compared 2 = .ok (.lcmp, 1) := by decide +kernel
theorem dX2_compared_3 : decode cX2_compared 3 = .ok (.ifCond .ge 7, 3) := by decide +kernel
theorem dX2_compared_6 : decode cX2_compared 6 = .ok (.iconst (-1), 1) := by decide +kernel
theorem dX2_compared_7 : decode cX2_compared 7 = .ok (.goto 14, 3) := by decide +kernel
theorem dX2_compared_10 : decode cX2_compared 10 = .ok (.lload_n 0, 1) := by decide +kernel
theorem dX2_compared_11 : decode cX2_compared 11 = .ok (.lload_n 2, 1) := by decide +kernel
theorem dX2_compared_12 : decode cX2_compared 12 = .ok (.lcmp, 1) := by decide +kernel
theorem dX2_compared_13 : decode cX2_compared 13 = .ok (.ifCond .le 7, 3) := by decide +kernel
theorem dX2_compared_16 : decode cX2_compared 16 = .ok (.iconst 1, 1) := by decide +kernel
theorem dX2_compared_17 : decode cX2_compared 17 = .ok (.goto 4, 3) := by decide +kernel
theorem dX2_compared_20 : decode cX2_compared 20 = .ok (.iconst 0, 1) := by decide +kernel
theorem dX2_compared_21 : decode cX2_compared 21 = .ok (.ireturn, 1) := by decide +kernel
set_option maxHeartbeats 4000000 in
set_option maxRecDepth 20000 in
theorem c_X2_compared (tys : List (ClassId × FieldType)) (ws : va_W) (p0 : Int64) (p1 : Int64) : mCt tys yX2_compared cX2_compared 4 (some .int) ⟨0, 0, 0, 0⟩ [.long p0, .long p1] ws (mRi ws) mNo := by
  refine mCt.of (by decide +kernel) (Nat.le_of_ble_eq_true rfl) (fun X hX hE => ?_)
  have hX : mOK X RX2 cX2_compared 4 ⟨0, 0, 0, 0⟩ [] tys := hX
  refine r_lload_n hX dX2_compared_0 rfl rfl ?_
  refine r_lload_n hX dX2_compared_1 rfl rfl ?_
  refine r_lcmp hX dX2_compared_2 ?_
  refine r_if_ge (tgt := 10) hX dX2_compared_3 (by decide) (fun c1 => ?_) (fun c1 => ?_)
  · refine r_lload_n hX dX2_compared_10 rfl rfl ?_
    refine r_lload_n hX dX2_compared_11 rfl rfl ?_
    refine r_lcmp hX dX2_compared_12 ?_
    refine r_if_le (tgt := 20) hX dX2_compared_13 (by decide) (fun c2 => ?_) (fun c2 => ?_)
    · refine r_iconst (v := 0) hX dX2_compared_20 (by decide) ?_
      exact r_iret hX hE dX2_compared_21 (Nat.le_of_ble_eq_true rfl) (Nat.le_of_ble_eq_true rfl) ⟨_, rfl, rfl⟩
    · refine r_iconst (v := 1) hX dX2_compared_16 (by decide) ?_
      refine r_goto (tgt := 21) hX dX2_compared_17 (by decide) ?_
      exact r_iret hX hE dX2_compared_21 (Nat.le_of_ble_eq_true rfl) (Nat.le_of_ble_eq_true rfl) ⟨_, rfl, rfl⟩
  · refine r_iconst (v := -1) hX dX2_compared_6 (by decide) ?_
    refine r_goto (tgt := 21) hX dX2_compared_7 (by decide) ?_
    exact r_iret hX hE dX2_compared_21 (Nat.le_of_ble_eq_true rfl) (Nat.le_of_ble_eq_true rfl) ⟨_, rfl, rfl⟩
theorem dX2_signed_0 : decode cX2_signed 0 = .ok (.iload_n 1, 1) := by decide +kernel
theorem dX2_signed_1 : decode cX2_signed 1 = .ok (.ifCond .eq 9, 3) := by decide +kernel
theorem dX2_signed_4 : decode cX2_signed 4 = .ok (.iload_n 0, 1) := by decide +kernel
theorem dX2_signed_5 : decode cX2_signed 5 = .ok (.i2l, 1) := by decide +kernel
theorem dX2_signed_6 : decode cX2_signed 6 = .ok (.lneg, 1) := by decide +kernel
theorem dX2_signed_7 : decode cX2_signed 7 = .ok (.goto 5, 3) := by decide +kernel
theorem dX2_signed_10 : decode cX2_signed 10 = .ok (.iload_n 0, 1) := by decide +kernel
theorem dX2_signed_11 : decode cX2_signed 11 = .ok (.i2l, 1) := by decide +kernel
theorem dX2_signed_12 : decode cX2_signed 12 = .ok (.lreturn, 1) := by decide +kernel
set_option maxHeartbeats 4000000 in
set_option maxRecDepth 20000 in
theorem c_X2_signed (tys : List (ClassId × FieldType)) (ws : va_W) (p0 : Int32) (p1 : Int32) : mCt tys yX2_signed cX2_signed 2 (some .long) ⟨0, 0, 0, 0⟩ [.int p0, .int p1] ws (mRl ws) mNo := by
  refine mCt.of (by decide +kernel) (Nat.le_of_ble_eq_true rfl) (fun X hX hE => ?_)
  have hX : mOK X RX2 cX2_signed 2 ⟨0, 0, 0, 0⟩ [] tys := hX
  refine r_iload_n hX dX2_signed_0 rfl rfl ?_
  refine r_if_eq (tgt := 10) hX dX2_signed_1 (by decide) (fun c1 => ?_) (fun c1 => ?_)
  · refine r_iload_n hX dX2_signed_10 rfl rfl ?_
    refine r_i2l hX dX2_signed_11 ?_
    exact r_lret hX hE dX2_signed_12 (Nat.le_of_ble_eq_true rfl) (Nat.le_of_ble_eq_true rfl) ⟨_, rfl, rfl⟩
  · refine r_iload_n hX dX2_signed_4 rfl rfl ?_
    refine r_i2l hX dX2_signed_5 ?_
    refine r_lneg hX dX2_signed_6 ?_
    refine r_goto (tgt := 12) hX dX2_signed_7 (by decide) ?_
    exact r_lret hX hE dX2_signed_12 (Nat.le_of_ble_eq_true rfl) (Nat.le_of_ble_eq_true rfl) ⟨_, rfl, rfl⟩
theorem dX2_secondOf_0 : decode cX2_secondOf 0 = .ok (.lload_n 0, 1) := by decide +kernel
theorem dX2_secondOf_1 : decode cX2_secondOf 1 = .ok (.ldc2_w 72, 3) := by decide +kernel
theorem dX2_secondOf_4 : decode cX2_secondOf 4 = .ok (.invokestatic 100, 3) := by decide +kernel
theorem dX2_secondOf_7 : decode cX2_secondOf 7 = .ok (.lreturn, 1) := by decide +kernel
set_option maxHeartbeats 4000000 in
set_option maxRecDepth 20000 in
theorem c_X2_secondOf (tys : List (ClassId × FieldType)) (ws : va_W) (p0 : Int64) : mCt tys yX2_secondOf cX2_secondOf 2 (some .long) ⟨1, 0, 0, 25⟩ [.long p0] ws (mRl ws) mNo := by
  refine mCt.of (by decide +kernel) (Nat.le_of_ble_eq_true rfl) (fun X hX hE => ?_)
  have hX : mOK X RX2 cX2_secondOf 2 ⟨1, 0, 0, 25⟩ [] tys := hX
  refine r_lload_n hX dX2_secondOf_0 rfl rfl ?_
  refine r_ldc2 hX kc_X2_72 dX2_secondOf_1 ?_
  refine r_callS hX (c_J9_floorDiv_f86c9 _ _ _ _ (by decide)) ks_X2_100 rfl rfl (Nat.le_of_ble_eq_true rfl) ⟨(Nat.le_of_ble_eq_true rfl), (Nat.le_of_ble_eq_true rfl)⟩ ⟨(Nat.le_of_ble_eq_true rfl), (Nat.le_of_ble_eq_true rfl)⟩ dX2_secondOf_4 (fun _ _ z => False.elim z) (fun v9 ws9 h1 => ?_)
  obtain ⟨r3, rfl, hw9⟩ := h1
  subst ws9
  dsimp only [mPush]
  exact r_lret hX hE dX2_secondOf_7 (Nat.le_of_ble_eq_true rfl) (Nat.le_of_ble_eq_true rfl) ⟨_, rfl, rfl⟩
theorem dX2_nanoOf_0 : decode cX2_nanoOf 0 = .ok (.lload_n 0, 1) := by decide +kernel
theorem dX2_nanoOf_1 : decode cX2_nanoOf 1 = .ok (.ldc2_w 72, 3) := by decide +kernel
theorem dX2_nanoOf_4 : decode cX2_nanoOf 4 = .ok (.invokestatic 277, 3) := by decide +kernel
theorem dX2_nanoOf_7 : decode cX2_nanoOf 7 = .ok (.l2i, 1) := by decide +kernel
theorem dX2_nanoOf_8 : decode cX2_nanoOf 8 = .ok (.ireturn, 1) := by decide +kernel
set_option maxHeartbeats 4000000 in
set_option maxRecDepth 20000 in
theorem c_X2_nanoOf (tys : List (ClassId × FieldType)) (ws : va_W) (p0 : Int64) : mCt tys yX2_nanoOf cX2_nanoOf 2 (some .int) ⟨1, 0, 0, 25⟩ [.long p0] ws (mRi ws) mNo := by
  refine mCt.of (by decide +kernel) (Nat.le_of_ble_eq_true rfl) (fun X hX hE => ?_)
  have hX : mOK X RX2 cX2_nanoOf 2 ⟨1, 0, 0, 25⟩ [] tys := hX
  refine r_lload_n hX dX2_nanoOf_0 rfl rfl ?_
  refine r_ldc2 hX kc_X2_72 dX2_nanoOf_1 ?_
  refine r_callS hX (c_J9_floorMod_f86c9 _ _ _ _ (by decide)) ks_X2_277 rfl rfl (Nat.le_of_ble_eq_true rfl) ⟨(Nat.le_of_ble_eq_true rfl), (Nat.le_of_ble_eq_true rfl)⟩ ⟨(Nat.le_of_ble_eq_true rfl), (Nat.le_of_ble_eq_true rfl)⟩ dX2_nanoOf_4 (fun _ _ z => False.elim z) (fun v9 ws9 h1 => ?_)
  obtain ⟨r3, rfl, hw9⟩ := h1
  subst ws9
  dsimp only [mPush]
  refine r_l2i hX dX2_nanoOf_7 ?_
  exact r_iret hX hE dX2_nanoOf_8 (Nat.le_of_ble_eq_true rfl) (Nat.le_of_ble_eq_true rfl) ⟨_, rfl, rfl⟩
theorem dX2_added_0 : decode cX2_added 0 = .ok (.lload_n 0, 1) := by decide +kernel
theorem dX2_added_1 : decode cX2_added 1 = .ok (.ldc2_w 374, 3) := by decide +kernel
theorem dX2_added_4 : decode cX2_added 4 = .ok (.lmul, 1) := by decide +kernel
theorem dX2_added_5 : decode cX2_added 5 = .ok (.lload_n 2, 1) := by decide +kernel
theorem dX2_added_6 : decode cX2_added 6 = .ok (.ladd, 1) := by decide +kernel
theorem dX2_added_7 : decode cX2_added 7 = .ok (.lreturn, 1) := by decide +kernel
set_option maxHeartbeats 4000000 in
set_option maxRecDepth 20000 in
theorem c_X2_added (tys : List (ClassId × FieldType)) (ws : va_W) (p0 : Int64) (p1 : Int64) : mCt tys yX2_added cX2_added 4 (some .long) ⟨0, 0, 0, 0⟩ [.long p0, .long p1] ws (mRl ws) mNo := by
  refine mCt.of (by decide +kernel) (Nat.le_of_ble_eq_true rfl) (fun X hX hE => ?_)
  have hX : mOK X RX2 cX2_added 4 ⟨0, 0, 0, 0⟩ [] tys := hX
  refine r_lload_n hX dX2_added_0 rfl rfl ?_
  refine r_ldc2 hX kc_X2_374 dX2_added_1 ?_
  refine r_lmul hX dX2_added_4 ?_
  refine r_lload_n hX dX2_added_5 rfl rfl ?_
  refine r_ladd hX dX2_added_6 ?_
  exact r_lret hX hE dX2_added_7 (Nat.le_of_ble_eq_true rfl) (Nat.le_of_ble_eq_true rfl) ⟨_, rfl, rfl⟩
theorem dX1_tell_0 : decode cX1_tell 0 = .ok (.aload_n 0, 1) := by decide +kernel
theorem dX1_tell_1 : decode cX1_tell 1 = .ok (.lload_n 1, 1) := by decide +kernel
theorem dX1_tell_2 : decode cX1_tell 2 = .ok (.putfield 9, 3) := by decide +kernel
theorem dX1_tell_5 : decode cX1_tell 5 = .ok (.aload_n 0, 1) := by decide +kernel
theorem dX1_tell_6 : decode cX1_tell 6 = .ok (.iload_n 3, 1) := by decide +kernel
theorem dX1_tell_7 : decode cX1_tell 7 = .ok (.putfield 15, 3) := by decide +kernel
theorem dX1_tell_10 : decode cX1_tell 10 = .ok (.aload_n 0, 1) := by decide +kernel
theorem dX1_tell_11 : decode cX1_tell 11 = .ok (.iload 4, 2) := by decide +kernel
theorem dX1_tell_13 : decode cX1_tell 13 = .ok (.putfield 19, 3) := by decide +kernel
theorem dX1_tell_16 : decode cX1_tell 16 = .ok (.return_, 1) := by decide +kernel
theorem c_X1_tell (tys : List (ClassId × FieldType)) (ws : va_W) (qT aT : Nat) (sT : Int64) (nT oT : Int32) (hT : ws[qT]? = some (aT, .inr (2, [.long sT, .int nT, .int oT]))) (p0 : Int64) (p1 p2 : Int32) : mCt tys yX1_tell cX1_tell 5 none ⟨0, 0, 0, 0⟩ [.ref aT, .long p0, .int p1, .int p2] ws (fun v ws' => v = none ∧ ws' = ws.set qT (aT, .inr (2, [.long p0, .int p1, .int p2]))) mNo := by
  refine mCt.of (by decide +kernel) (Nat.le_of_ble_eq_true rfl) (fun X hX hE => ?_)
  have hX : mOK X RX1 cX1_tell 5 ⟨0, 0, 0, 0⟩ [] tys := hX
  have hq : qT < ws.length := (List.getElem?_eq_some_iff.mp hT).1
  refine r_aload_n hX dX1_tell_0 rfl rfl ?_
  refine r_lload_n hX dX1_tell_1 rfl rfl ?_
  refine r_put hX kf_X1_9 qT hT rfl rfl rfl (Nat.le_of_ble_eq_true rfl) dX1_tell_2 ?_
  refine r_aload_n hX dX1_tell_5 rfl rfl ?_
  refine r_iload_n hX dX1_tell_6 rfl rfl ?_
  refine r_put hX kf_X1_15 qT (List.getElem?_set_self hq) rfl rfl rfl (Nat.le_of_ble_eq_true rfl) dX1_tell_7 ?_
  rw [List.set_set]
  refine r_aload_n hX dX1_tell_10 rfl rfl ?_
  refine r_iload hX dX1_tell_11 rfl ?_
  refine r_put hX kf_X1_19 qT (List.getElem?_set_self hq) rfl rfl rfl (Nat.le_of_ble_eq_true rfl) dX1_tell_13 ?_
  rw [List.set_set]
  exact r_vret hX hE dX1_tell_16 (Nat.le_of_ble_eq_true rfl) (Nat.le_of_ble_eq_true rfl) ⟨rfl, rfl⟩
theorem dX1_momentSecond_0 : decode cX1_momentSecond 0 = .ok (.aload_n 0, 1) := by decide +kernel
theorem dX1_momentSecond_1 : decode cX1_momentSecond 1 = .ok (.getfield 9, 3) := by decide +kernel
theorem dX1_momentSecond_4 : decode cX1_momentSecond 4 = .ok (.aload_n 0, 1) := by decide +kernel
theorem dX1_momentSecond_5 : decode cX1_momentSecond 5 = .ok (.getfield 19, 3) := by decide +kernel
theorem dX1_momentSecond_8 : decode cX1_momentSecond 8 = .ok (.i2l, 1) := by decide +kernel
theorem dX1_momentSecond_9 : decode cX1_momentSecond 9 = .ok (.lsub, 1) := by decide +kernel
theorem dX1_momentSecond_10 : decode cX1_momentSecond 10 = .ok (.lreturn, 1) := by decide +kernel
set_option maxHeartbeats 4000000 in
set_option maxRecDepth 20000 in
theorem c_X1_momentSecond (tys : List (ClassId × FieldType)) (ws : va_W) (qT aT : Nat) (sT : Int64) (nT oT : Int32) (hT : ws[qT]? = some (aT, .inr (2, [.long sT, .int nT, .int oT]))) : mCt tys yX1_momentSecond cX1_momentSecond 1 (some .long) ⟨0, 0, 0, 0⟩ [.ref aT] ws (mRl ws) mNo := by
  refine mCt.of (by decide +kernel) (Nat.le_of_ble_eq_true rfl) (fun X hX hE => ?_)
  have hX : mOK X RX1 cX1_momentSecond 1 ⟨0, 0, 0, 0⟩ [] tys := hX
  refine r_aload_n hX dX1_momentSecond_0 rfl rfl ?_
  refine r_get hX kf_X1_9 qT hT rfl dX1_momentSecond_1 ?_
  refine r_aload_n hX dX1_momentSecond_4 rfl rfl ?_
  refine r_get hX kf_X1_19 qT hT rfl dX1_momentSecond_5 ?_
  refine r_i2l hX dX1_momentSecond_8 ?_
  refine r_lsub hX dX1_momentSecond_9 ?_
  exact r_lret hX hE dX1_momentSecond_10 (Nat.le_of_ble_eq_true rfl) (Nat.le_of_ble_eq_true rfl) ⟨_, rfl, rfl⟩
theorem dX1_day_0 : decode cX1_day 0 = .ok (.aload_n 0, 1) := by decide +kernel
theorem dX1_day_1 : decode cX1_day 1 = .ok (.getfield 9, 3) := by decide +kernel
theorem dX1_day_4 : decode cX1_day 4 = .ok (.ldc2_w 22, 3) := by decide +kernel
theorem dX1_day_7 : decode cX1_day 7 = .ok (.invokestatic 24, 3) := by decide +kernel
theorem dX1_day_10 : decode cX1_day 10 = .ok (.l2i, 1) := by decide +kernel
theorem dX1_day_11 : decode cX1_day 11 = .ok (.ireturn, 1) := by decide +kernel
set_option maxHeartbeats 4000000 in
set_option maxRecDepth 20000 in
theorem c_X1_day (tys : List (ClassId × FieldType)) (ws : va_W) (qT aT : Nat) (sT : Int64) (nT oT : Int32) (hT : ws[qT]? = some (aT, .inr (2, [.long sT, .int nT, .int oT]))) : mCt tys yX1_day cX1_day 1 (some .int) ⟨1, 0, 0, 25⟩ [.ref aT] ws (mRi ws) mNo := by
  refine mCt.of (by decide +kernel) (Nat.le_of_ble_eq_true rfl) (fun X hX hE => ?_)
  have hX : mOK X RX1 cX1_day 1 ⟨1, 0, 0, 25⟩ [] tys := hX
  refine r_aload_n hX dX1_day_0 rfl rfl ?_
  refine r_get hX kf_X1_9 qT hT rfl dX1_day_1 ?_
  refine r_ldc2 hX kc_X1_22 dX1_day_4 ?_
  refine r_callS hX (c_J9_floorDiv_f86c9 _ _ _ _ (by decide)) ks_X1_24 rfl rfl (Nat.le_of_ble_eq_true rfl) ⟨(Nat.le_of_ble_eq_true rfl), (Nat.le_of_ble_eq_true rfl)⟩ ⟨(Nat.le_of_ble_eq_true rfl), (Nat.le_of_ble_eq_true rfl)⟩ dX1_day_7 (fun _ _ z => False.elim z) (fun v9 ws9 h1 => ?_)
  obtain ⟨r3, rfl, hw9⟩ := h1
  subst ws9
  dsimp only [mPush]
  refine r_l2i hX dX1_day_10 ?_
  exact r_iret hX hE dX1_day_11 (Nat.le_of_ble_eq_true rfl) (Nat.le_of_ble_eq_true rfl) ⟨_, rfl, rfl⟩
theorem dX1_beginOfDay_0 : decode cX1_beginOfDay 0 = .ok (.aload_n 0, 1) := by decide +kernel
theorem dX1_beginOfDay_1 : decode cX1_beginOfDay 1 = .ok (.invokevirtual 30, 3) := by decide +kernel
theorem dX1_beginOfDay_4 : decode cX1_beginOfDay 4 = .ok (.i2l, 1) := by decide +kernel
theorem dX1_beginOfDay_5 : decode cX1_beginOfDay 5 = .ok (.ldc2_w 22, 3) := by decide +kernel
theorem dX1_beginOfDay_8 : decode cX1_beginOfDay 8 = .ok (.lmul, 1) := by decide +kernel
theorem dX1_beginOfDay_9 : decode cX1_beginOfDay 9 = .ok (.lreturn, 1) := by decide +kernel
set_option maxHeartbeats 4000000 in
set_option maxRecDepth 20000 in
theorem c_X1_beginOfDay (tys : List (ClassId × FieldType)) (ws : va_W) (qT aT : Nat) (sT : Int64) (nT oT : Int32) (hT : ws[qT]? = some (aT, .inr (2, [.long sT, .int nT, .int oT]))) : mCt tys yX1_beginOfDay cX1_beginOfDay 1 (some .long) ⟨2, 0, 0, 45⟩ [.ref aT] ws (mRl ws) mNo := by
  refine mCt.of (by decide +kernel) (Nat.le_of_ble_eq_true rfl) (fun X hX hE => ?_)
  have hX : mOK X RX1 cX1_beginOfDay 1 ⟨2, 0, 0, 45⟩ [] tys := hX
  refine r_aload_n hX dX1_beginOfDay_0 rfl rfl ?_
  refine r_callV hX (c_X1_day _ _ qT _ _ _ _ hT) kv_X1_30 qT hT rfl rfl rfl (Nat.le_of_ble_eq_true rfl) ⟨(Nat.le_of_ble_eq_true rfl), (Nat.le_of_ble_eq_true rfl)⟩ ⟨(Nat.le_of_ble_eq_true rfl), (Nat.le_of_ble_eq_true rfl)⟩ dX1_beginOfDay_1 (fun _ _ z => False.elim z) (fun v9 ws9 h1 => ?_)
  obtain ⟨r3, rfl, hw9⟩ := h1
  subst ws9
  dsimp only [mPush]
  refine r_i2l hX dX1_beginOfDay_4 ?_
  refine r_ldc2 hX kc_X1_22 dX1_beginOfDay_5 ?_
  refine r_lmul hX dX1_beginOfDay_8 ?_
  exact r_lret hX hE dX1_beginOfDay_9 (Nat.le_of_ble_eq_true rfl) (Nat.le_of_ble_eq_true rfl) ⟨_, rfl, rfl⟩
theorem dX1_secondOfDay_0 : decode cX1_secondOfDay 0 = .ok (.aload_n 0, 1) := by decide +kernel
theorem dX1_secondOfDay_1 : decode cX1_secondOfDay 1 = .ok (.getfield 9, 3) := by decide +kernel
theorem dX1_secondOfDay_4 : decode cX1_secondOfDay 4 = .ok (.ldc2_w 22, 3) := by decide +kernel
theorem dX1_secondOfDay_7 : decode cX1_secondOfDay 7 = .ok (.invokestatic 45, 3) := by decide +kernel
theorem dX1_secondOfDay_10 : decode cX1_secondOfDay 10 = .ok (.l2i, 1) := by decide +kernel
theorem dX1_secondOfDay_11 : decode cX1_secondOfDay 11 = .ok (.ireturn, 1) := by decide +kernel
set_option maxHeartbeats 4000000 in
set_option maxRecDepth 20000 in
theorem c_X1_secondOfDay (tys : List (ClassId × FieldType)) (ws : va_W) (qT aT : Nat) (sT : Int64) (nT oT : Int32) (hT : ws[qT]? = some (aT, .inr (2, [.long sT, .int nT, .int oT]))) : mCt tys yX1_secondOfDay cX1_secondOfDay 1 (some .int) ⟨1, 0, 0, 25⟩ [.ref aT] ws (mRi ws) mNo := by
  refine mCt.of (by decide +kernel) (Nat.le_of_ble_eq_true rfl) (fun X hX hE => ?_)
  have hX : mOK X RX1 cX1_secondOfDay 1 ⟨1, 0, 0, 25⟩ [] tys := hX
  refine r_aload_n hX dX1_secondOfDay_0 rfl rfl ?_
  refine r_get hX kf_X1_9 qT hT rfl dX1_secondOfDay_1 ?_
  refine r_ldc2 hX kc_X1_22 dX1_secondOfDay_4 ?_
  refine r_callS hX (c_J9_floorMod_f86c9 _ _ _ _ (by decide)) ks_X1_45 rfl rfl (Nat.le_of_ble_eq_true rfl) ⟨(Nat.le_of_ble_eq_true rfl), (Nat.le_of_ble_eq_true rfl)⟩ ⟨(Nat.le_of_ble_eq_true rfl), (Nat.le_of_ble_eq_true rfl)⟩ dX1_secondOfDay_7 (fun _ _ z => False.elim z) (fun v9 ws9 h1 => ?_)
  obtain ⟨r3, rfl, hw9⟩ := h1
  subst ws9
  dsimp only [mPush]
  refine r_l2i hX dX1_secondOfDay_10 ?_
  exact r_iret hX hE dX1_secondOfDay_11 (Nat.le_of_ble_eq_true rfl) (Nat.le_of_ble_eq_true rfl) ⟨_, rfl, rfl⟩
theorem dX1_hour_0 : decode cX1_hour 0 = .ok (.aload_n 0, 1) := by decide +kernel
theorem dX1_hour_1 : decode cX1_hour 1 = .ok (.invokevirtual 48, 3) := by decide +kernel
theorem dX1_hour_4 : decode cX1_hour 4 = .ok (.sipush 3600, 3) := by decide +kernel
theorem dX1_hour_7 : decode cX1_hour 7 = .ok (.idiv, 1) := by decide +kernel
theorem dX1_hour_8 : decode cX1_hour 8 = .ok (.ireturn, 1) := by decide +kernel
set_option maxHeartbeats 4000000 in
set_option maxRecDepth 20000 in
theorem c_X1_hour (tys : List (ClassId × FieldType)) (ws : va_W) (qT aT : Nat) (sT : Int64) (nT oT : Int32) (hT : ws[qT]? = some (aT, .inr (2, [.long sT, .int nT, .int oT]))) : mCt tys yX1_hour cX1_hour 1 (some .int) ⟨2, 0, 0, 45⟩ [.ref aT] ws (mRi ws) mNo := by
  refine mCt.of (by decide +kernel) (Nat.le_of_ble_eq_true rfl) (fun X hX hE => ?_)
  have hX : mOK X RX1 cX1_hour 1 ⟨2, 0, 0, 45⟩ [] tys := hX
  refine r_aload_n hX dX1_hour_0 rfl rfl ?_
  refine r_callV hX (c_X1_secondOfDay _ _ qT _ _ _ _ hT) kv_X1_48 qT hT rfl rfl rfl (Nat.le_of_ble_eq_true rfl) ⟨(Nat.le_of_ble_eq_true rfl), (Nat.le_of_ble_eq_true rfl)⟩ ⟨(Nat.le_of_ble_eq_true rfl), (Nat.le_of_ble_eq_true rfl)⟩ dX1_hour_1 (fun _ _ z => False.elim z) (fun v9 ws9 h1 => ?_)
  obtain ⟨r3, rfl, hw9⟩ := h1
  subst ws9
  dsimp only [mPush]
  refine r_sipush (v := 3600) hX dX1_hour_4 (by decide) ?_
  refine r_idiv hX dX1_hour_7 (by first | decide | assumption) ?_
  exact r_iret hX hE dX1_hour_8 (Nat.le_of_ble_eq_true rfl) (Nat.le_of_ble_eq_true rfl) ⟨_, rfl, rfl⟩
theorem dX1_minute_0 : decode cX1_minute 0 = .ok (.aload_n 0, 1) := by decide +kernel
theorem dX1_minute_1 : decode cX1_minute 1 = .ok (.invokevirtual 48, 3) := by decide +kernel
theorem dX1_minute_4 : decode cX1_minute 4 = .ok (.bipush 60, 2) := by decide +kernel
theorem dX1_minute_6 : decode cX1_minute 6 = .ok (.idiv, 1) := by decide +kernel
theorem dX1_minute_7 : decode cX1_minute 7 = .ok (.bipush 60, 2) := by decide +kernel
theorem dX1_minute_9 : decode cX1_minute 9 = .ok (.irem, 1) := by decide +kernel
theorem dX1_minute_10 : decode cX1_minute 10 = .ok (.ireturn, 1) := by decide +kernel
set_option maxHeartbeats 4000000 in
set_option maxRecDepth 20000 in
theorem c_X1_minute (tys : List (ClassId × FieldType)) (ws : va_W) (qT aT : Nat) (sT : Int64) (nT oT : Int32) (hT : ws[qT]? = some (aT, .inr (2, [.long sT, .int nT, .int oT]))) : mCt tys yX1_minute cX1_minute 1 (some .int) ⟨2, 0, 0, 45⟩ [.ref aT] ws (mRi ws) mNo := by
  refine mCt.of (by decide +kernel) (Nat.le_of_ble_eq_true rfl) (fun X hX hE => ?_)
  have hX : mOK X RX1 cX1_minute 1 ⟨2, 0, 0, 45⟩ [] tys := hX
  refine r_aload_n hX dX1_minute_0 rfl rfl ?_
  refine r_callV hX (c_X1_secondOfDay _ _ qT _ _ _ _ hT) kv_X1_48 qT hT rfl rfl rfl (Nat.le_of_ble_eq_true rfl) ⟨(Nat.le_of_ble_eq_true rfl), (Nat.le_of_ble_eq_true rfl)⟩ ⟨(Nat.le_of_ble_eq_true rfl), (Nat.le_of_ble_eq_true rfl)⟩ dX1_minute_1 (fun _ _ z => False.elim z) (fun v9 ws9 h1 => ?_)
  obtain ⟨r3, rfl, hw9⟩ := h1
  subst ws9
  dsimp only [mPush]
  refine r_bipush (v := 60) hX dX1_minute_4 (by decide) ?_
  refine r_idiv hX dX1_minute_6 (by first | decide | assumption) ?_
  refine r_bipush (v := 60) hX dX1_minute_7 (by decide) ?_
  refine r_irem hX dX1_minute_9 (by first | decide | assumption) ?_
  exact r_iret hX hE dX1_minute_10 (Nat.le_of_ble_eq_true rfl) (Nat.le_of_ble_eq_true rfl) ⟨_, rfl, rfl⟩
theorem dX1_secondOfMinute_0 : decode cX1_secondOfMinute 0 = .ok (.aload_n 0, 1) := by decide +kernel
theorem dX1_secondOfMinute_1 : decode cX1_secondOfMinute 1 = .ok (.invokevirtual 48, 3) := by decide +kernel
theorem dX1_secondOfMinute_4 : decode cX1_secondOfMinute 4 = .ok (.bipush 60, 2) := by decide +kernel
theorem dX1_secondOfMinute_6 : decode cX1_secondOfMinute 6 = .ok (.irem, 1) := by decide +kernel
theorem dX1_secondOfMinute_7 : decode cX1_secondOfMinute 7 = .ok (.ireturn, 1) := by decide +kernel
set_option maxHeartbeats 4000000 in
set_option maxRecDepth 20000 in
theorem c_X1_secondOfMinute (tys : List (ClassId × FieldType)) (ws : va_W) (qT aT : Nat) (sT : Int64) (nT oT : Int32) (hT : ws[qT]? = some (aT, .inr (2, [.long sT, .int nT, .int oT]))) : mCt tys yX1_secondOfMinute cX1_secondOfMinute 1 (some .int) ⟨2, 0, 0, 45⟩ [.ref aT] ws (mRi ws) mNo := by
  refine mCt.of (by decide +kernel) (Nat.le_of_ble_eq_true rfl) (fun X hX hE => ?_)
  have hX : mOK X RX1 cX1_secondOfMinute 1 ⟨2, 0, 0, 45⟩ [] tys := hX
  refine r_aload_n hX dX1_secondOfMinute_0 rfl rfl ?_
  refine r_callV hX (c_X1_secondOfDay _ _ qT _ _ _ _ hT) kv_X1_48 qT hT rfl rfl rfl (Nat.le_of_ble_eq_true rfl) ⟨(Nat.le_of_ble_eq_true rfl), (Nat.le_of_ble_eq_true rfl)⟩ ⟨(Nat.le_of_ble_eq_true rfl), (Nat.le_of_ble_eq_true rfl)⟩ dX1_secondOfMinute_1 (fun _ _ z => False.elim z) (fun v9 ws9 h1 => ?_)
  obtain ⟨r3, rfl, hw9⟩ := h1
  subst ws9
  dsimp only [mPush]
  refine r_bipush (v := 60) hX dX1_secondOfMinute_4 (by decide) ?_
  refine r_irem hX dX1_secondOfMinute_6 (by first | decide | assumption) ?_
  exact r_iret hX hE dX1_secondOfMinute_7 (Nat.le_of_ble_eq_true rfl) (Nat.le_of_ble_eq_true rfl) ⟨_, rfl, rfl⟩
theorem dX1_months_0 : decode cX1_months 0 = .ok (.aload_n 0, 1) := by decide +kernel
theorem dX1_months_1 : decode cX1_months 1 = .ok (.invokevirtual 30, 3) := by decide +kernel
theorem dX1_months_4 : decode cX1_months 4 = .ok (.invokestatic 34, 3) := by decide +kernel
theorem dX1_months_7 : decode cX1_months 7 = .ok (.i2l, 1) := by decide +kernel
theorem dX1_months_8 : decode cX1_months 8 = .ok (.ldc2_w 40, 3) := by decide +kernel
theorem dX1_months_11 : decode cX1_months 11 = .ok (.lmul, 1) := by decide +kernel
theorem dX1_months_12 : decode cX1_months 12 = .ok (.aload_n 0, 1) := by decide +kernel
theorem dX1_months_13 : decode cX1_months 13 = .ok (.invokevirtual 30, 3) := by decide +kernel
theorem dX1_months_16 : decode cX1_months 16 = .ok (.invokestatic 42, 3) := by decide +kernel
theorem dX1_months_19 : decode cX1_months 19 = .ok (.i2l, 1) := by decide +kernel
theorem dX1_months_20 : decode cX1_months 20 = .ok (.ladd, 1) := by decide +kernel
theorem dX1_months_21 : decode cX1_months 21 = .ok (.lconst 1, 1) := by decide +kernel
theorem dX1_months_22 : decode cX1_months 22 = .ok (.lsub, 1) := by decide +kernel
theorem dX1_months_23 : decode cX1_months 23 = .ok (.lreturn, 1) := by decide +kernel
set_option maxHeartbeats 4000000 in
set_option maxRecDepth 20000 in
theorem c_X1_months (tys : List (ClassId × FieldType)) (ws : va_W) (qT aT : Nat) (sT : Int64) (nT oT : Int32) (hT : ws[qT]? = some (aT, .inr (2, [.long sT, .int nT, .int oT]))) : mCt tys yX1_months cX1_months 1 (some .long) ⟨3, 0, 0, 65⟩ [.ref aT] ws (mRl ws) mNo := by
  refine mCt.of (by decide +kernel) (Nat.le_of_ble_eq_true rfl) (fun X hX hE => ?_)
  have hX : mOK X RX1 cX1_months 1 ⟨3, 0, 0, 65⟩ [] tys := hX
  refine r_aload_n hX dX1_months_0 rfl rfl ?_
  refine r_callV hX (c_X1_day _ _ qT _ _ _ _ hT) kv_X1_30 qT hT rfl rfl rfl (Nat.le_of_ble_eq_true rfl) ⟨(Nat.le_of_ble_eq_true rfl), (Nat.le_of_ble_eq_true rfl)⟩ ⟨(Nat.le_of_ble_eq_true rfl), (Nat.le_of_ble_eq_true rfl)⟩ dX1_months_1 (fun _ _ z => False.elim z) (fun v9 ws9 h1 => ?_)
  obtain ⟨r3, rfl, hw9⟩ := h1
  subst ws9
  dsimp only [mPush]
  refine r_callS hX (c_X0_yearOf _ _ _) ks_X1_34 rfl rfl (Nat.le_of_ble_eq_true rfl) ⟨(Nat.le_of_ble_eq_true rfl), (Nat.le_of_ble_eq_true rfl)⟩ ⟨(Nat.le_of_ble_eq_true rfl), (Nat.le_of_ble_eq_true rfl)⟩ dX1_months_4 (fun _ _ z => False.elim z) (fun v9 ws9 h4 => ?_)
  obtain ⟨r6, rfl, hw9⟩ := h4
  subst ws9
  dsimp only [mPush]
  refine r_i2l hX dX1_months_7 ?_
  refine r_ldc2 hX kc_X1_40 dX1_months_8 ?_
  refine r_lmul hX dX1_months_11 ?_
  refine r_aload_n hX dX1_months_12 rfl rfl ?_
  refine r_callV hX (c_X1_day _ _ qT _ _ _ _ hT) kv_X1_30 qT hT rfl rfl rfl (Nat.le_of_ble_eq_true rfl) ⟨(Nat.le_of_ble_eq_true rfl), (Nat.le_of_ble_eq_true rfl)⟩ ⟨(Nat.le_of_ble_eq_true rfl), (Nat.le_of_ble_eq_true rfl)⟩ dX1_months_13 (fun _ _ z => False.elim z) (fun v9 ws9 h7 => ?_)
  obtain ⟨r9, rfl, hw9⟩ := h7
  subst ws9
  dsimp only [mPush]
  refine r_callS hX (c_X0_monthOf _ _ _) ks_X1_42 rfl rfl (Nat.le_of_ble_eq_true rfl) ⟨(Nat.le_of_ble_eq_true rfl), (Nat.le_of_ble_eq_true rfl)⟩ ⟨(Nat.le_of_ble_eq_true rfl), (Nat.le_of_ble_eq_true rfl)⟩ dX1_months_16 (fun _ _ z => False.elim z) (fun v9 ws9 h10 => ?_)
  obtain ⟨r12, rfl, hw9⟩ := h10
  subst ws9
  dsimp only [mPush]
  refine r_i2l hX dX1_months_19 ?_
  refine r_ladd hX dX1_months_20 ?_
  refine r_lconst (v := 1) hX dX1_months_21 (by decide) ?_
  refine r_lsub hX dX1_months_22 ?_
  exact r_lret hX hE dX1_months_23 (Nat.le_of_ble_eq_true rfl) (Nat.le_of_ble_eq_true rfl) ⟨_, rfl, rfl⟩
theorem dX1_momentOrder_0 : decode cX1_momentOrder 0 = .ok (.aload_n 0, 1) := by decide +kernel
theorem dX1_momentOrder_1 : decode cX1_momentOrder 1 = .ok (.invokevirtual 55, 3) := by decide +kernel
theorem dX1_momentOrder_4 : decode cX1_momentOrder 4 = .ok (.aload_n 1, 1) := by decide +kernel
theorem dX1_momentOrder_5 : decode cX1_momentOrder 5 = .ok (.invokevirtual 55, 3) := by decide +kernel
theorem dX1_momentOrder_8 : decode cX1_momentOrder 8 = .ok (.invokestatic 59, 3) := by decide +kernel
theorem dX1_momentOrder_11 : decode cX1_momentOrder 11 = .ok (.istore_n 2, 1) := by decide +kernel
theorem dX1_momentOrder_12 : decode cX1_momentOrder 12 = .ok (.iload_n 2, 1) := by decide +kernel
theorem dX1_momentOrder_13 : decode cX1_momentOrder 13 = .ok (.ifCond .eq 7, 3) := by decide +kernel
theorem dX1_momentOrder_16 : decode cX1_momentOrder 16 = .ok (.iload_n 2, 1) := by decide +kernel
theorem dX1_momentOrder_17 : decode cX1_momentOrder 17 = .ok (.goto 16, 3) := by decide +kernel
theorem dX1_momentOrder_20 : decode cX1_momentOrder 20 = .ok (.aload_n 0, 1) := by decide +kernel
theorem dX1_momentOrder_21 : decode cX1_momentOrder 21 = .ok (.getfield 15, 3) := by decide +kernel
theorem dX1_momentOrder_24 : decode cX1_momentOrder 24 = .ok (.i2l, 1) := by decide +kernel
theorem dX1_momentOrder_25 : decode cX1_momentOrder 25 = .ok (.aload_n 1, 1) := by decide +kernel
theorem dX1_momentOrder_26 : decode cX1_momentOrder 26 = .ok (.getfield 15, 3) := by decide +kernel
theorem dX1_momentOrder_29 : decode cX1_momentOrder 29 = .ok (.i2l, 1) := by decide +kernel
theorem dX1_momentOrder_30 : decode cX1_momentOrder 30 = .ok (.invokestatic 59, 3) := by decide +kernel
theorem dX1_momentOrder_33 : decode cX1_momentOrder 33 = .ok (.ireturn, 1) := by decide +kernel
set_option maxHeartbeats 4000000 in
set_option maxRecDepth 20000 in
theorem c_X1_momentOrder (tys : List (ClassId × FieldType)) (ws : va_W) (qT aT : Nat) (sT : Int64) (nT oT : Int32) (hT : ws[qT]? = some (aT, .inr (2, [.long sT, .int nT, .int oT]))) (q0 a0 : Nat) (s0 : Int64) (n0 o0 : Int32) (h0 : ws[q0]? = some (a0, .inr (2, [.long s0, .int n0, .int o0]))) : mCt tys yX1_momentOrder cX1_momentOrder 3 (some .int) ⟨1, 0, 0, 23⟩ [.ref aT, .ref a0] ws (mRi ws) mNo := by
  refine mCt.of (by decide +kernel) (Nat.le_of_ble_eq_true rfl) (fun X hX hE => ?_)
  have hX : mOK X RX1 cX1_momentOrder 3 ⟨1, 0, 0, 23⟩ [] tys := hX
  refine r_aload_n hX dX1_momentOrder_0 rfl rfl ?_
  refine r_callV hX (c_X1_momentSecond _ _ qT _ _ _ _ hT) kv_X1_55 qT hT rfl rfl rfl (Nat.le_of_ble_eq_true rfl) ⟨(Nat.le_of_ble_eq_true rfl), (Nat.le_of_ble_eq_true rfl)⟩ ⟨(Nat.le_of_ble_eq_true rfl), (Nat.le_of_ble_eq_true rfl)⟩ dX1_momentOrder_1 (fun _ _ z => False.elim z) (fun v9 ws9 h1 => ?_)
  obtain ⟨r3, rfl, hw9⟩ := h1
  subst ws9
  dsimp only [mPush]
  refine r_aload_n hX dX1_momentOrder_4 rfl rfl ?_
  refine r_callV hX (c_X1_momentSecond _ _ q0 _ _ _ _ h0) kv_X1_55 q0 h0 rfl rfl rfl (Nat.le_of_ble_eq_true rfl) ⟨(Nat.le_of_ble_eq_true rfl), (Nat.le_of_ble_eq_true rfl)⟩ ⟨(Nat.le_of_ble_eq_true rfl), (Nat.le_of_ble_eq_true rfl)⟩ dX1_momentOrder_5 (fun _ _ z => False.elim z) (fun v9 ws9 h4 => ?_)
  obtain ⟨r6, rfl, hw9⟩ := h4
  subst ws9
  dsimp only [mPush]
  refine r_callN hX (c_X2_compared _ _ _ _) kn_X1_59 rfl rfl (Nat.le_of_ble_eq_true rfl) ⟨(Nat.le_of_ble_eq_true rfl), (Nat.le_of_ble_eq_true rfl)⟩ ⟨(Nat.le_of_ble_eq_true rfl), (Nat.le_of_ble_eq_true rfl)⟩ dX1_momentOrder_8 (fun _ _ z => False.elim z) (fun v9 ws9 h7 => ?_)
  obtain ⟨r9, rfl, hw9⟩ := h7
  subst ws9
  dsimp only [mPush]
  refine r_istore_n hX dX1_momentOrder_11 rfl (by decide) rfl ?_
  refine r_iload_n hX dX1_momentOrder_12 rfl rfl ?_
  refine r_if_eq (tgt := 20) hX dX1_momentOrder_13 (by decide) (fun c10 => ?_) (fun c10 => ?_)
  · refine r_aload_n hX dX1_momentOrder_20 rfl rfl ?_
    refine r_get hX kf_X1_15 qT hT rfl dX1_momentOrder_21 ?_
    refine r_i2l hX dX1_momentOrder_24 ?_
    refine r_aload_n hX dX1_momentOrder_25 rfl rfl ?_
    refine r_get hX kf_X1_15 q0 h0 rfl dX1_momentOrder_26 ?_
    refine r_i2l hX dX1_momentOrder_29 ?_
    refine r_callN hX (c_X2_compared _ _ _ _) kn_X1_59 rfl rfl (Nat.le_of_ble_eq_true rfl) ⟨(Nat.le_of_ble_eq_true rfl), (Nat.le_of_ble_eq_true rfl)⟩ ⟨(Nat.le_of_ble_eq_true rfl), (Nat.le_of_ble_eq_true rfl)⟩ dX1_momentOrder_30 (fun _ _ z => False.elim z) (fun v9 ws9 h11 => ?_)
    obtain ⟨r13, rfl, hw9⟩ := h11
    subst ws9
    dsimp only [mPush]
    exact r_iret hX hE dX1_momentOrder_33 (Nat.le_of_ble_eq_true rfl) (Nat.le_of_ble_eq_true rfl) ⟨_, rfl, rfl⟩
  · refine r_iload_n hX dX1_momentOrder_16 rfl rfl ?_
    refine r_goto (tgt := 33) hX dX1_momentOrder_17 (by decide) ?_
    exact r_iret hX hE dX1_momentOrder_33 (Nat.le_of_ble_eq_true rfl) (Nat.le_of_ble_eq_true rfl) ⟨_, rfl, rfl⟩
theorem dX1_isAhead_0 : decode cX1_isAhead 0 = .ok (.aload_n 0, 1) := by decide +kernel
theorem dX1_isAhead_1 : decode cX1_isAhead 1 = .ok (.aload_n 1, 1) := by decide +kernel
theorem dX1_isAhead_2 : decode cX1_isAhead 2 = .ok (.invokevirtual 51, 3) := by decide +kernel
theorem dX1_isAhead_5 : decode cX1_isAhead 5 = .ok (.ifCond .ge 7, 3) := by decide +kernel
theorem dX1_isAhead_8 : decode cX1_isAhead 8 = .ok (.iconst 1, 1) := by decide +kernel
theorem dX1_isAhead_9 : decode cX1_isAhead 9 = .ok (.goto 4, 3) := by decide +kernel
theorem dX1_isAhead_12 : decode cX1_isAhead 12 = .ok (.iconst 0, 1) := by decide +kernel
theorem dX1_isAhead_13 : decode cX1_isAhead 13 = .ok (.ireturn, 1) := by decide +kernel
set_option maxHeartbeats 4000000 in
set_option maxRecDepth 20000 in
theorem c_X1_isAhead (tys : List (ClassId × FieldType)) (ws : va_W) (qT aT : Nat) (sT : Int64) (nT oT : Int32) (hT : ws[qT]? = some (aT, .inr (2, [.long sT, .int nT, .int oT]))) (q0 a0 : Nat) (s0 : Int64) (n0 o0 : Int32) (h0 : ws[q0]? = some (a0, .inr (2, [.long s0, .int n0, .int o0]))) : mCt tys yX1_isAhead cX1_isAhead 2 (some .boolean) ⟨2, 0, 0, 45⟩ [.ref aT, .ref a0] ws (mRb ws) mNo := by
  refine mCt.of (by decide +kernel) (Nat.le_of_ble_eq_true rfl) (fun X hX hE => ?_)
  have hX : mOK X RX1 cX1_isAhead 2 ⟨2, 0, 0, 45⟩ [] tys := hX
  refine r_aload_n hX dX1_isAhead_0 rfl rfl ?_
  refine r_aload_n hX dX1_isAhead_1 rfl rfl ?_
  refine r_callV hX (c_X1_momentOrder _ _ qT _ _ _ _ hT q0 _ _ _ _ h0) kv_X1_51 qT hT rfl rfl rfl (Nat.le_of_ble_eq_true rfl) ⟨(Nat.le_of_ble_eq_true rfl), (Nat.le_of_ble_eq_true rfl)⟩ ⟨(Nat.le_of_ble_eq_true rfl), (Nat.le_of_ble_eq_true rfl)⟩ dX1_isAhead_2 (fun _ _ z => False.elim z) (fun v9 ws9 h1 => ?_)
  obtain ⟨r3, rfl, hw9⟩ := h1
  subst ws9
  dsimp only [mPush]
  refine r_if_ge (tgt := 12) hX dX1_isAhead_5 (by decide) (fun c4 => ?_) (fun c4 => ?_)
  · refine r_iconst (v := 0) hX dX1_isAhead_12 (by decide) ?_
    exact r_zret hX hE dX1_isAhead_13 (mB_n (Or.inl rfl)) (Nat.le_of_ble_eq_true rfl) (Nat.le_of_ble_eq_true rfl) ⟨_, (Or.inl rfl), rfl, rfl⟩
  · refine r_iconst (v := 1) hX dX1_isAhead_8 (by decide) ?_
    refine r_goto (tgt := 13) hX dX1_isAhead_9 (by decide) ?_
    exact r_zret hX hE dX1_isAhead_13 (mB_n (Or.inr rfl)) (Nat.le_of_ble_eq_true rfl) (Nat.le_of_ble_eq_true rfl) ⟨_, (Or.inr rfl), rfl, rfl⟩
theorem dX1_isAlike_0 : decode cX1_isAlike 0 = .ok (.aload_n 0, 1) := by decide +kernel
theorem dX1_isAlike_1 : decode cX1_isAlike 1 = .ok (.invokevirtual 55, 3) := by decide +kernel
theorem dX1_isAlike_4 : decode cX1_isAlike 4 = .ok (.aload_n 1, 1) := by decide +kernel
theorem dX1_isAlike_5 : decode cX1_isAlike 5 = .ok (.invokevirtual 55, 3) := by decide +kernel
theorem dX1_isAlike_8 : decode cX1_isAlike 8 = .ok (.lcmp, 1) := by decide +kernel
theorem dX1_isAlike_9 : decode cX1_isAlike 9 = .ok (.ifCond .ne 18, 3) := by decide +kernel
theorem dX1_isAlike_12 : decode cX1_isAlike 12 = .ok (.aload_n 0, 1) := by decide +kernel
theorem dX1_isAlike_13 : decode cX1_isAlike 13 = .ok (.getfield 15, 3) := by decide +kernel
theorem dX1_isAlike_16 : decode cX1_isAlike 16 = .ok (.aload_n 1, 1) := by decide +kernel
theorem dX1_isAlike_17 : decode cX1_isAlike 17 = .ok (.getfield 15, 3) := by decide +kernel
theorem dX1_isAlike_20 : decode cX1_isAlike 20 = .ok (.if_icmp .ne 7, 3) := by decide +kernel
theorem dX1_isAlike_23 : decode cX1_isAlike 23 = .ok (.iconst 1, 1) := by decide +kernel
theorem dX1_isAlike_24 : decode cX1_isAlike 24 = .ok (.goto 4, 3) := by decide +kernel
theorem dX1_isAlike_27 : decode cX1_isAlike 27 = .ok (.iconst 0, 1) := by decide +kernel
theorem dX1_isAlike_28 : decode cX1_isAlike 28 = .ok (.ireturn, 1) := by decide +kernel
set_option maxHeartbeats 4000000 in
set_option maxRecDepth 20000 in
theorem c_X1_isAlike (tys : List (ClassId × FieldType)) (ws : va_W) (qT aT : Nat) (sT : Int64) (nT oT : Int32) (hT : ws[qT]? = some (aT, .inr (2, [.long sT, .int nT, .int oT]))) (q0 a0 : Nat) (s0 : Int64) (n0 o0 : Int32) (h0 : ws[q0]? = some (a0, .inr (2, [.long s0, .int n0, .int o0]))) : mCt tys yX1_isAlike cX1_isAlike 2 (some .boolean) ⟨1, 0, 0, 20⟩ [.ref aT, .ref a0] ws (mRb ws) mNo := by
  refine mCt.of (by decide +kernel) (Nat.le_of_ble_eq_true rfl) (fun X hX hE => ?_)
  have hX : mOK X RX1 cX1_isAlike 2 ⟨1, 0, 0, 20⟩ [] tys := hX
  refine r_aload_n hX dX1_isAlike_0 rfl rfl ?_
  refine r_callV hX (c_X1_momentSecond _ _ qT _ _ _ _ hT) kv_X1_55 qT hT rfl rfl rfl (Nat.le_of_ble_eq_true rfl) ⟨(Nat.le_of_ble_eq_true rfl), (Nat.le_of_ble_eq_true rfl)⟩ ⟨(Nat.le_of_ble_eq_true rfl), (Nat.le_of_ble_eq_true rfl)⟩ dX1_isAlike_1 (fun _ _ z => False.elim z) (fun v9 ws9 h1 => ?_)
  obtain ⟨r3, rfl, hw9⟩ := h1
  subst ws9
  dsimp only [mPush]
  refine r_aload_n hX dX1_isAlike_4 rfl rfl ?_
  refine r_callV hX (c_X1_momentSecond _ _ q0 _ _ _ _ h0) kv_X1_55 q0 h0 rfl rfl rfl (Nat.le_of_ble_eq_true rfl) ⟨(Nat.le_of_ble_eq_true rfl), (Nat.le_of_ble_eq_true rfl)⟩ ⟨(Nat.le_of_ble_eq_true rfl), (Nat.le_of_ble_eq_true rfl)⟩ dX1_isAlike_5 (fun _ _ z => False.elim z) (fun v9 ws9 h4 => ?_)
  obtain ⟨r6, rfl, hw9⟩ := h4
  subst ws9
  dsimp only [mPush]
  refine r_lcmp hX dX1_isAlike_8 ?_
  refine r_if_ne (tgt := 27) hX dX1_isAlike_9 (by decide) (fun c7 => ?_) (fun c7 => ?_)
  · refine r_iconst (v := 0) hX dX1_isAlike_27 (by decide) ?_
    exact r_zret hX hE dX1_isAlike_28 (mB_n (Or.inl rfl)) (Nat.le_of_ble_eq_true rfl) (Nat.le_of_ble_eq_true rfl) ⟨_, (Or.inl rfl), rfl, rfl⟩
  · refine r_aload_n hX dX1_isAlike_12 rfl rfl ?_
    refine r_get hX kf_X1_15 qT hT rfl dX1_isAlike_13 ?_
    refine r_aload_n hX dX1_isAlike_16 rfl rfl ?_
    refine r_get hX kf_X1_15 q0 h0 rfl dX1_isAlike_17 ?_
    refine r_icmp_ne (tgt := 27) hX dX1_isAlike_20 (by decide) (fun c8 => ?_) (fun c8 => ?_)
    · refine r_iconst (v := 0) hX dX1_isAlike_27 (by decide) ?_
      exact r_zret hX hE dX1_isAlike_28 (mB_n (Or.inl rfl)) (Nat.le_of_ble_eq_true rfl) (Nat.le_of_ble_eq_true rfl) ⟨_, (Or.inl rfl), rfl, rfl⟩
    · refine r_iconst (v := 1) hX dX1_isAlike_23 (by decide) ?_
      refine r_goto (tgt := 28) hX dX1_isAlike_24 (by decide) ?_
      exact r_zret hX hE dX1_isAlike_28 (mB_n (Or.inr rfl)) (Nat.le_of_ble_eq_true rfl) (Nat.le_of_ble_eq_true rfl) ⟨_, (Or.inr rfl), rfl, rfl⟩
theorem dX1_isSame_0 : decode cX1_isSame 0 = .ok (.aload_n 0, 1) := by decide +kernel
theorem dX1_isSame_1 : decode cX1_isSame 1 = .ok (.getfield 9, 3) := by decide +kernel
theorem dX1_isSame_4 : decode cX1_isSame 4 = .ok (.aload_n 1, 1) := by decide +kernel
theorem dX1_isSame_5 : decode cX1_isSame 5 = .ok (.getfield 9, 3) := by decide +kernel
theorem dX1_isSame_8 : decode cX1_isSame 8 = .ok (.lcmp, 1) := by decide +kernel
theorem dX1_isSame_9 : decode cX1_isSame 9 = .ok (.ifCond .ne 29, 3) := by decide +kernel
theorem dX1_isSame_12 : decode cX1_isSame 12 = .ok (.aload_n 0, 1) := by decide +kernel
theorem dX1_isSame_13 : decode cX1_isSame 13 = .ok (.getfield 15, 3) := by decide +kernel
theorem dX1_isSame_16 : decode cX1_isSame 16 = .ok (.aload_n 1, 1) := by decide +kernel
theorem dX1_isSame_17 : decode cX1_isSame 17 = .ok (.getfield 15, 3) := by decide +kernel
theorem dX1_isSame_20 : decode cX1_isSame 20 = .ok (.if_icmp .ne 18, 3) := by decide +kernel
theorem dX1_isSame_23 : decode cX1_isSame 23 = .ok (.aload_n 0, 1) := by decide +kernel
theorem dX1_isSame_24 : decode cX1_isSame 24 = .ok (.getfield 19, 3) := by decide +kernel
theorem dX1_isSame_27 : decode cX1_isSame 27 = .ok (.aload_n 1, 1) := by decide +kernel
theorem dX1_isSame_28 : decode cX1_isSame 28 = .ok (.getfield 19, 3) := by decide +kernel
theorem dX1_isSame_31 : decode cX1_isSame 31 = .ok (.if_icmp .ne 7, 3) := by decide +kernel
theorem dX1_isSame_34 : decode cX1_isSame 34 = .ok (.iconst 1, 1) := by decide +kernel
theorem dX1_isSame_35 : decode cX1_isSame 35 = .ok (.goto 4, 3) := by decide +kernel
theorem dX1_isSame_38 : decode cX1_isSame 38 = .ok (.iconst 0, 1) := by decide +kernel
theorem dX1_isSame_39 : decode cX1_isSame 39 = .ok (.ireturn, 1) := by decide +kernel
set_option maxHeartbeats 4000000 in
set_option maxRecDepth 20000 in
theorem c_X1_isSame (tys : List (ClassId × FieldType)) (ws : va_W) (qT aT : Nat) (sT : Int64) (nT oT : Int32) (hT : ws[qT]? = some (aT, .inr (2, [.long sT, .int nT, .int oT]))) (q0 a0 : Nat) (s0 : Int64) (n0 o0 : Int32) (h0 : ws[q0]? = some (a0, .inr (2, [.long s0, .int n0, .int o0]))) : mCt tys yX1_isSame cX1_isSame 2 (some .boolean) ⟨0, 0, 0, 0⟩ [.ref aT, .ref a0] ws (mRb ws) mNo := by
  refine mCt.of (by decide +kernel) (Nat.le_of_ble_eq_true rfl) (fun X hX hE => ?_)
  have hX : mOK X RX1 cX1_isSame 2 ⟨0, 0, 0, 0⟩ [] tys := hX
  refine r_aload_n hX dX1_isSame_0 rfl rfl ?_
  refine r_get hX kf_X1_9 qT hT rfl dX1_isSame_1 ?_
  refine r_aload_n hX dX1_isSame_4 rfl rfl ?_
  refine r_get hX kf_X1_9 q0 h0 rfl dX1_isSame_5 ?_
  refine r_lcmp hX dX1_isSame_8 ?_
  refine r_if_ne (tgt := 38) hX dX1_isSame_9 (by decide) (fun c1 => ?_) (fun c1 => ?_)
  · refine r_iconst (v := 0) hX dX1_isSame_38 (by decide) ?_
    exact r_zret hX hE dX1_isSame_39 (mB_n (Or.inl rfl)) (Nat.le_of_ble_eq_true rfl) (Nat.le_of_ble_eq_true rfl) ⟨_, (Or.inl rfl), rfl, rfl⟩
  · refine r_aload_n hX dX1_isSame_12 rfl rfl ?_
    refine r_get hX kf_X1_15 qT hT rfl dX1_isSame_13 ?_
    refine r_aload_n hX dX1_isSame_16 rfl rfl ?_
    refine r_get hX kf_X1_15 q0 h0 rfl dX1_isSame_17 ?_
    refine r_icmp_ne (tgt := 38) hX dX1_isSame_20 (by decide) (fun c2 => ?_) (fun c2 => ?_)
    · refine r_iconst (v := 0) hX dX1_isSame_38 (by decide) ?_
      exact r_zret hX hE dX1_isSame_39 (mB_n (Or.inl rfl)) (Nat.le_of_ble_eq_true rfl) (Nat.le_of_ble_eq_true rfl) ⟨_, (Or.inl rfl), rfl, rfl⟩
    · refine r_aload_n hX dX1_isSame_23 rfl rfl ?_
      refine r_get hX kf_X1_19 qT hT rfl dX1_isSame_24 ?_
      refine r_aload_n hX dX1_isSame_27 rfl rfl ?_
      refine r_get hX kf_X1_19 q0 h0 rfl dX1_isSame_28 ?_
      refine r_icmp_ne (tgt := 38) hX dX1_isSame_31 (by decide) (fun c3 => ?_) (fun c3 => ?_)
      · refine r_iconst (v := 0) hX dX1_isSame_38 (by decide) ?_
        exact r_zret hX hE dX1_isSame_39 (mB_n (Or.inl rfl)) (Nat.le_of_ble_eq_true rfl) (Nat.le_of_ble_eq_true rfl) ⟨_, (Or.inl rfl), rfl, rfl⟩
      · refine r_iconst (v := 1) hX dX1_isSame_34 (by decide) ?_
        refine r_goto (tgt := 39) hX dX1_isSame_35 (by decide) ?_
        exact r_zret hX hE dX1_isSame_39 (mB_n (Or.inr rfl)) (Nat.le_of_ble_eq_true rfl) (Nat.le_of_ble_eq_true rfl) ⟨_, (Or.inr rfl), rfl, rfl⟩
theorem dX1_orderTo_0 : decode cX1_orderTo 0 = .ok (.aload_n 0, 1) := by decide +kernel
theorem dX1_orderTo_1 : decode cX1_orderTo 1 = .ok (.aload_n 1, 1) := by decide +kernel
theorem dX1_orderTo_2 : decode cX1_orderTo 2 = .ok (.invokevirtual 51, 3) := by decide +kernel
theorem dX1_orderTo_5 : decode cX1_orderTo 5 = .ok (.istore_n 2, 1) := by decide +kernel
theorem dX1_orderTo_6 : decode cX1_orderTo 6 = .ok (.iload_n 2, 1) := by decide +kernel
theorem dX1_orderTo_7 : decode cX1_orderTo 7 = .ok (.ifCond .eq 7, 3) := by decide +kernel
theorem dX1_orderTo_10 : decode cX1_orderTo 10 = .ok (.iload_n 2, 1) := by decide +kernel
theorem dX1_orderTo_11 : decode cX1_orderTo 11 = .ok (.goto 14, 3) := by decide +kernel
theorem dX1_orderTo_14 : decode cX1_orderTo 14 = .ok (.aload_n 0, 1) := by decide +kernel
theorem dX1_orderTo_15 : decode cX1_orderTo 15 = .ok (.getfield 9, 3) := by decide +kernel
theorem dX1_orderTo_18 : decode cX1_orderTo 18 = .ok (.aload_n 1, 1) := by decide +kernel
theorem dX1_orderTo_19 : decode cX1_orderTo 19 = .ok (.getfield 9, 3) := by decide +kernel
theorem dX1_orderTo_22 : decode cX1_orderTo 22 = .ok (.invokestatic 59, 3) := by decide +kernel
theorem dX1_orderTo_25 : decode cX1_orderTo 25 = .ok (.ireturn, 1) := by decide +kernel
set_option maxHeartbeats 4000000 in
set_option maxRecDepth 20000 in
theorem c_X1_orderTo (tys : List (ClassId × FieldType)) (ws : va_W) (qT aT : Nat) (sT : Int64) (nT oT : Int32) (hT : ws[qT]? = some (aT, .inr (2, [.long sT, .int nT, .int oT]))) (q0 a0 : Nat) (s0 : Int64) (n0 o0 : Int32) (h0 : ws[q0]? = some (a0, .inr (2, [.long s0, .int n0, .int o0]))) : mCt tys yX1_orderTo cX1_orderTo 3 (some .int) ⟨2, 0, 0, 45⟩ [.ref aT, .ref a0] ws (mRi ws) mNo := by
  refine mCt.of (by decide +kernel) (Nat.le_of_ble_eq_true rfl) (fun X hX hE => ?_)
  have hX : mOK X RX1 cX1_orderTo 3 ⟨2, 0, 0, 45⟩ [] tys := hX
  refine r_aload_n hX dX1_orderTo_0 rfl rfl ?_
  refine r_aload_n hX dX1_orderTo_1 rfl rfl ?_
  refine r_callV hX (c_X1_momentOrder _ _ qT _ _ _ _ hT q0 _ _ _ _ h0) kv_X1_51 qT hT rfl rfl rfl (Nat.le_of_ble_eq_true rfl) ⟨(Nat.le_of_ble_eq_true rfl), (Nat.le_of_ble_eq_true rfl)⟩ ⟨(Nat.le_of_ble_eq_true rfl), (Nat.le_of_ble_eq_true rfl)⟩ dX1_orderTo_2 (fun _ _ z => False.elim z) (fun v9 ws9 h1 => ?_)
  obtain ⟨r3, rfl, hw9⟩ := h1
  subst ws9
  dsimp only [mPush]
  refine r_istore_n hX dX1_orderTo_5 rfl (by decide) rfl ?_
  refine r_iload_n hX dX1_orderTo_6 rfl rfl ?_
  refine r_if_eq (tgt := 14) hX dX1_orderTo_7 (by decide) (fun c4 => ?_) (fun c4 => ?_)
  · refine r_aload_n hX dX1_orderTo_14 rfl rfl ?_
    refine r_get hX kf_X1_9 qT hT rfl dX1_orderTo_15 ?_
    refine r_aload_n hX dX1_orderTo_18 rfl rfl ?_
    refine r_get hX kf_X1_9 q0 h0 rfl dX1_orderTo_19 ?_
    refine r_callN hX (c_X2_compared _ _ _ _) kn_X1_59 rfl rfl (Nat.le_of_ble_eq_true rfl) ⟨(Nat.le_of_ble_eq_true rfl), (Nat.le_of_ble_eq_true rfl)⟩ ⟨(Nat.le_of_ble_eq_true rfl), (Nat.le_of_ble_eq_true rfl)⟩ dX1_orderTo_22 (fun _ _ z => False.elim z) (fun v9 ws9 h5 => ?_)
    obtain ⟨r7, rfl, hw9⟩ := h5
    subst ws9
    dsimp only [mPush]
    exact r_iret hX hE dX1_orderTo_25 (Nat.le_of_ble_eq_true rfl) (Nat.le_of_ble_eq_true rfl) ⟨_, rfl, rfl⟩
  · refine r_iload_n hX dX1_orderTo_10 rfl rfl ?_
    refine r_goto (tgt := 25) hX dX1_orderTo_11 (by decide) ?_
    exact r_iret hX hE dX1_orderTo_25 (Nat.le_of_ble_eq_true rfl) (Nat.le_of_ble_eq_true rfl) ⟨_, rfl, rfl⟩
theorem dX2_numberOf_0 : decode cX2_numberOf 0 = .ok (.aload_n 0, 1) := by decide +kernel
theorem dX2_numberOf_1 : decode cX2_numberOf 1 = .ok (.invokevirtual 169, 3) := by decide +kernel
theorem dX2_numberOf_4 : decode cX2_numberOf 4 = .ok (.ldc2_w 72, 3) := by decide +kernel
theorem dX2_numberOf_7 : decode cX2_numberOf 7 = .ok (.lmul, 1) := by decide +kernel
theorem dX2_numberOf_8 : decode cX2_numberOf 8 = .ok (.aload_n 0, 1) := by decide +kernel
theorem dX2_numberOf_9 : decode cX2_numberOf 9 = .ok (.getfield 172, 3) := by decide +kernel
theorem dX2_numberOf_12 : decode cX2_numberOf 12 = .ok (.i2l, 1) := by decide +kernel
theorem dX2_numberOf_13 : decode cX2_numberOf 13 = .ok (.ladd, 1) := by decide +kernel
theorem dX2_numberOf_14 : decode cX2_numberOf 14 = .ok (.lreturn, 1) := by decide +kernel
set_option maxHeartbeats 4000000 in
set_option maxRecDepth 20000 in
theorem c_X2_numberOf (tys : List (ClassId × FieldType)) (ws : va_W) (q0 a0 : Nat) (s0 : Int64) (n0 o0 : Int32) (h0 : ws[q0]? = some (a0, .inr (2, [.long s0, .int n0, .int o0]))) : mCt tys yX2_numberOf cX2_numberOf 1 (some .long) ⟨1, 0, 0, 20⟩ [.ref a0] ws (mRl ws) mNo := by
  refine mCt.of (by decide +kernel) (Nat.le_of_ble_eq_true rfl) (fun X hX hE => ?_)
  have hX : mOK X RX2 cX2_numberOf 1 ⟨1, 0, 0, 20⟩ [] tys := hX
  refine r_aload_n hX dX2_numberOf_0 rfl rfl ?_
  refine r_callV hX (c_X1_momentSecond _ _ q0 _ _ _ _ h0) kv_X2_169 q0 h0 rfl rfl rfl (Nat.le_of_ble_eq_true rfl) ⟨(Nat.le_of_ble_eq_true rfl), (Nat.le_of_ble_eq_true rfl)⟩ ⟨(Nat.le_of_ble_eq_true rfl), (Nat.le_of_ble_eq_true rfl)⟩ dX2_numberOf_1 (fun _ _ z => False.elim z) (fun v9 ws9 h1 => ?_)
  obtain ⟨r3, rfl, hw9⟩ := h1
  subst ws9
  dsimp only [mPush]
  refine r_ldc2 hX kc_X2_72 dX2_numberOf_4 ?_
  refine r_lmul hX dX2_numberOf_7 ?_
  refine r_aload_n hX dX2_numberOf_8 rfl rfl ?_
  refine r_getN hX kg_X2_172 q0 h0 rfl dX2_numberOf_9 ?_
  refine r_i2l hX dX2_numberOf_12 ?_
  refine r_ladd hX dX2_numberOf_13 ?_
  exact r_lret hX hE dX2_numberOf_14 (Nat.le_of_ble_eq_true rfl) (Nat.le_of_ble_eq_true rfl) ⟨_, rfl, rfl⟩
theorem dX2_secondsOn_0 : decode cX2_secondsOn 0 = .ok (.iload_n 1, 1) := by decide +kernel
theorem dX2_secondsOn_1 : decode cX2_secondsOn 1 = .ok (.tableswitch 65 2 6 #[35, 45, 51, 57, 63], 35) := by decide +kernel
theorem dX2_secondsOn_36 : decode cX2_secondsOn 36 = .ok (.lload_n 2, 1) := by decide +kernel
theorem dX2_secondsOn_37 : decode cX2_secondsOn 37 = .ok (.ldc2_w 302, 3) := by decide +kernel
theorem dX2_secondsOn_40 : decode cX2_secondsOn 40 = .ok (.lmul, 1) := by decide +kernel
theorem dX2_secondsOn_41 : decode cX2_secondsOn 41 = .ok (.ldc2_w 130, 3) := by decide +kernel
theorem dX2_secondsOn_44 : decode cX2_secondsOn 44 = .ok (.lmul, 1) := by decide +kernel
theorem dX2_secondsOn_45 : decode cX2_secondsOn 45 = .ok (.lreturn, 1) := by decide +kernel
theorem dX2_secondsOn_46 : decode cX2_secondsOn 46 = .ok (.lload_n 2, 1) := by decide +kernel
theorem dX2_secondsOn_47 : decode cX2_secondsOn 47 = .ok (.ldc2_w 130, 3) := by decide +kernel
theorem dX2_secondsOn_50 : decode cX2_secondsOn 50 = .ok (.lmul, 1) := by decide +kernel
theorem dX2_secondsOn_51 : decode cX2_secondsOn 51 = .ok (.lreturn, 1) := by decide +kernel
theorem dX2_secondsOn_52 : decode cX2_secondsOn 52 = .ok (.lload_n 2, 1) := by decide +kernel
theorem dX2_secondsOn_53 : decode cX2_secondsOn 53 = .ok (.ldc2_w 304, 3) := by decide +kernel
theorem dX2_secondsOn_56 : decode cX2_secondsOn 56 = .ok (.lmul, 1) := by decide +kernel
theorem dX2_secondsOn_57 : decode cX2_secondsOn 57 = .ok (.lreturn, 1) := by decide +kernel
theorem dX2_secondsOn_58 : decode cX2_secondsOn 58 = .ok (.lload_n 2, 1) := by decide +kernel
theorem dX2_secondsOn_59 : decode cX2_secondsOn 59 = .ok (.ldc2_w 306, 3) := by decide +kernel
theorem dX2_secondsOn_62 : decode cX2_secondsOn 62 = .ok (.lmul, 1) := by decide +kernel
theorem dX2_secondsOn_63 : decode cX2_secondsOn 63 = .ok (.lreturn, 1) := by decide +kernel
theorem dX2_secondsOn_64 : decode cX2_secondsOn 64 = .ok (.lload_n 2, 1) := by decide +kernel
theorem dX2_secondsOn_65 : decode cX2_secondsOn 65 = .ok (.lreturn, 1) := by decide +kernel
theorem dX2_secondsOn_66 : decode cX2_secondsOn 66 = .ok (.aload_n 0, 1) := by decide +kernel
theorem dX2_secondsOn_67 : decode cX2_secondsOn 67 = .ok (.getfield 172, 3) := by decide +kernel
theorem dX2_secondsOn_70 : decode cX2_secondsOn 70 = .ok (.i2l, 1) := by decide +kernel
theorem dX2_secondsOn_71 : decode cX2_secondsOn 71 = .ok (.lload_n 2, 1) := by decide +kernel
theorem dX2_secondsOn_72 : decode cX2_secondsOn 72 = .ok (.ladd, 1) := by decide +kernel
theorem dX2_secondsOn_73 : decode cX2_secondsOn 73 = .ok (.invokestatic 96, 3) := by decide +kernel
theorem dX2_secondsOn_76 : decode cX2_secondsOn 76 = .ok (.lreturn, 1) := by decide +kernel
set_option maxHeartbeats 4000000 in
set_option maxRecDepth 20000 in
theorem c_X2_secondsOn (tys : List (ClassId × FieldType)) (ws : va_W) (q0 a0 : Nat) (s0 : Int64) (n0 o0 : Int32) (h0 : ws[q0]? = some (a0, .inr (2, [.long s0, .int n0, .int o0]))) (p1 : Int32) (p2 : Int64) : mCt tys yX2_secondsOn cX2_secondsOn 4 (some .long) ⟨2, 0, 0, 46⟩ [.ref a0, .int p1, .long p2] ws (mRl ws) mNo := by
  refine mCt.of (by decide +kernel) (Nat.le_of_ble_eq_true rfl) (fun X hX hE => ?_)
  have hX : mOK X RX2 cX2_secondsOn 4 ⟨2, 0, 0, 46⟩ [] tys := hX
  refine r_iload_n hX dX2_secondsOn_0 rfl rfl ?_
  by_cases s1 : p1.toInt = 2
  · refine r_tableIn (off := 35) (tgt := 36) hX dX2_secondsOn_1 (by omega) (by omega) (by rw [s1]; rfl) (by decide) ?_
    refine r_lload_n hX dX2_secondsOn_36 rfl rfl ?_
    refine r_ldc2 hX kc_X2_302 dX2_secondsOn_37 ?_
    refine r_lmul hX dX2_secondsOn_40 ?_
    refine r_ldc2 hX kc_X2_130 dX2_secondsOn_41 ?_
    refine r_lmul hX dX2_secondsOn_44 ?_
    exact r_lret hX hE dX2_secondsOn_45 (Nat.le_of_ble_eq_true rfl) (Nat.le_of_ble_eq_true rfl) ⟨_, rfl, rfl⟩
  by_cases s2 : p1.toInt = 3
  · refine r_tableIn (off := 45) (tgt := 46) hX dX2_secondsOn_1 (by omega) (by omega) (by rw [s2]; rfl) (by decide) ?_
    refine r_lload_n hX dX2_secondsOn_46 rfl rfl ?_
    refine r_ldc2 hX kc_X2_130 dX2_secondsOn_47 ?_
    refine r_lmul hX dX2_secondsOn_50 ?_
    exact r_lret hX hE dX2_secondsOn_51 (Nat.le_of_ble_eq_true rfl) (Nat.le_of_ble_eq_true rfl) ⟨_, rfl, rfl⟩
  by_cases s3 : p1.toInt = 4
  · refine r_tableIn (off := 51) (tgt := 52) hX dX2_secondsOn_1 (by omega) (by omega) (by rw [s3]; rfl) (by decide) ?_
    refine r_lload_n hX dX2_secondsOn_52 rfl rfl ?_
    refine r_ldc2 hX kc_X2_304 dX2_secondsOn_53 ?_
    refine r_lmul hX dX2_secondsOn_56 ?_
    exact r_lret hX hE dX2_secondsOn_57 (Nat.le_of_ble_eq_true rfl) (Nat.le_of_ble_eq_true rfl) ⟨_, rfl, rfl⟩
  by_cases s4 : p1.toInt = 5
  · refine r_tableIn (off := 57) (tgt := 58) hX dX2_secondsOn_1 (by omega) (by omega) (by rw [s4]; rfl) (by decide) ?_
    refine r_lload_n hX dX2_secondsOn_58 rfl rfl ?_
    refine r_ldc2 hX kc_X2_306 dX2_secondsOn_59 ?_
    refine r_lmul hX dX2_secondsOn_62 ?_
    exact r_lret hX hE dX2_secondsOn_63 (Nat.le_of_ble_eq_true rfl) (Nat.le_of_ble_eq_true rfl) ⟨_, rfl, rfl⟩
  by_cases s5 : p1.toInt = 6
  · refine r_tableIn (off := 63) (tgt := 64) hX dX2_secondsOn_1 (by omega) (by omega) (by rw [s5]; rfl) (by decide) ?_
    refine r_lload_n hX dX2_secondsOn_64 rfl rfl ?_
    exact r_lret hX hE dX2_secondsOn_65 (Nat.le_of_ble_eq_true rfl) (Nat.le_of_ble_eq_true rfl) ⟨_, rfl, rfl⟩
  refine r_tableOut (tgt := 66) hX dX2_secondsOn_1 (by omega) (by decide) ?_
  refine r_aload_n hX dX2_secondsOn_66 rfl rfl ?_
  refine r_getN hX kg_X2_172 q0 h0 rfl dX2_secondsOn_67 ?_
  refine r_i2l hX dX2_secondsOn_70 ?_
  refine r_lload_n hX dX2_secondsOn_71 rfl rfl ?_
  refine r_ladd hX dX2_secondsOn_72 ?_
  refine r_callS hX (c_X2_secondOf _ _ _) ks_X2_96 rfl rfl (Nat.le_of_ble_eq_true rfl) ⟨(Nat.le_of_ble_eq_true rfl), (Nat.le_of_ble_eq_true rfl)⟩ ⟨(Nat.le_of_ble_eq_true rfl), (Nat.le_of_ble_eq_true rfl)⟩ dX2_secondsOn_73 (fun _ _ z => False.elim z) (fun v9 ws9 h6 => ?_)
  obtain ⟨r8, rfl, hw9⟩ := h6
  subst ws9
  dsimp only [mPush]
  exact r_lret hX hE dX2_secondsOn_76 (Nat.le_of_ble_eq_true rfl) (Nat.le_of_ble_eq_true rfl) ⟨_, rfl, rfl⟩
theorem dX2_nanoOn_0 : decode cX2_nanoOn 0 = .ok (.iload_n 1, 1) := by decide +kernel
theorem dX2_nanoOn_1 : decode cX2_nanoOn 1 = .ok (.bipush 7, 2) := by decide +kernel
theorem dX2_nanoOn_3 : decode cX2_nanoOn 3 = .ok (.if_icmp .ne 16, 3) := by decide +kernel
theorem dX2_nanoOn_6 : decode cX2_nanoOn 6 = .ok (.aload_n 0, 1) := by decide +kernel
theorem dX2_nanoOn_7 : decode cX2_nanoOn 7 = .ok (.getfield 172, 3) := by decide +kernel
theorem dX2_nanoOn_10 : decode cX2_nanoOn 10 = .ok (.i2l, 1) := by decide +kernel
theorem dX2_nanoOn_11 : decode cX2_nanoOn 11 = .ok (.lload_n 2, 1) := by decide +kernel
theorem dX2_nanoOn_12 : decode cX2_nanoOn 12 = .ok (.ladd, 1) := by decide +kernel
theorem dX2_nanoOn_13 : decode cX2_nanoOn 13 = .ok (.invokestatic 92, 3) := by decide +kernel
theorem dX2_nanoOn_16 : decode cX2_nanoOn 16 = .ok (.goto 7, 3) := by decide +kernel
theorem dX2_nanoOn_19 : decode cX2_nanoOn 19 = .ok (.aload_n 0, 1) := by decide +kernel
theorem dX2_nanoOn_20 : decode cX2_nanoOn 20 = .ok (.getfield 172, 3) := by decide +kernel
theorem dX2_nanoOn_23 : decode cX2_nanoOn 23 = .ok (.ireturn, 1) := by decide +kernel
set_option maxHeartbeats 4000000 in
set_option maxRecDepth 20000 in
theorem c_X2_nanoOn (tys : List (ClassId × FieldType)) (ws : va_W) (q0 a0 : Nat) (s0 : Int64) (n0 o0 : Int32) (h0 : ws[q0]? = some (a0, .inr (2, [.long s0, .int n0, .int o0]))) (p1 : Int32) (p2 : Int64) : mCt tys yX2_nanoOn cX2_nanoOn 4 (some .int) ⟨2, 0, 0, 46⟩ [.ref a0, .int p1, .long p2] ws (mRi ws) mNo := by
  refine mCt.of (by decide +kernel) (Nat.le_of_ble_eq_true rfl) (fun X hX hE => ?_)
  have hX : mOK X RX2 cX2_nanoOn 4 ⟨2, 0, 0, 46⟩ [] tys := hX
  refine r_iload_n hX dX2_nanoOn_0 rfl rfl ?_
  refine r_bipush (v := 7) hX dX2_nanoOn_1 (by decide) ?_
  refine r_icmp_ne (tgt := 19) hX dX2_nanoOn_3 (by decide) (fun c1 => ?_) (fun c1 => ?_)
  · refine r_aload_n hX dX2_nanoOn_19 rfl rfl ?_
    refine r_getN hX kg_X2_172 q0 h0 rfl dX2_nanoOn_20 ?_
    exact r_iret hX hE dX2_nanoOn_23 (Nat.le_of_ble_eq_true rfl) (Nat.le_of_ble_eq_true rfl) ⟨_, rfl, rfl⟩
  · refine r_aload_n hX dX2_nanoOn_6 rfl rfl ?_
    refine r_getN hX kg_X2_172 q0 h0 rfl dX2_nanoOn_7 ?_
    refine r_i2l hX dX2_nanoOn_10 ?_
    refine r_lload_n hX dX2_nanoOn_11 rfl rfl ?_
    refine r_ladd hX dX2_nanoOn_12 ?_
    refine r_callS hX (c_X2_nanoOf _ _ _) ks_X2_92 rfl rfl (Nat.le_of_ble_eq_true rfl) ⟨(Nat.le_of_ble_eq_true rfl), (Nat.le_of_ble_eq_true rfl)⟩ ⟨(Nat.le_of_ble_eq_true rfl), (Nat.le_of_ble_eq_true rfl)⟩ dX2_nanoOn_13 (fun _ _ z => False.elim z) (fun v9 ws9 h2 => ?_)
    obtain ⟨r4, rfl, hw9⟩ := h2
    subst ws9
    dsimp only [mPush]
    refine r_goto (tgt := 23) hX dX2_nanoOn_16 (by decide) ?_
    exact r_iret hX hE dX2_nanoOn_23 (Nat.le_of_ble_eq_true rfl) (Nat.le_of_ble_eq_true rfl) ⟨_, rfl, rfl⟩
theorem dX2_datePart_0 : decode cX2_datePart 0 = .ok (.aload_n 0, 1) := by decide +kernel
theorem dX2_datePart_1 : decode cX2_datePart 1 = .ok (.invokevirtual 274, 3) := by decide +kernel
theorem dX2_datePart_4 : decode cX2_datePart 4 = .ok (.istore_n 2, 1) := by decide +kernel
theorem dX2_datePart_5 : decode cX2_datePart 5 = .ok (.iload_n 1, 1) := by decide +kernel
theorem dX2_datePart_6 : decode cX2_datePart 6 = .ok (.tableswitch 120 0 11 #[62, 67, 72, 77, 82, 87, 92, 97, 102, 107, 112, 118], 62) := by decide +kernel
theorem dX2_datePart_68 : decode cX2_datePart 68 = .ok (.iload_n 2, 1) := by decide +kernel
theorem dX2_datePart_69 : decode cX2_datePart 69 = .ok (.invokestatic 323, 3) := by decide +kernel
theorem dX2_datePart_72 : decode cX2_datePart 72 = .ok (.ireturn, 1) := by decide +kernel
theorem dX2_datePart_73 : decode cX2_datePart 73 = .ok (.iload_n 2, 1) := by decide +kernel
theorem dX2_datePart_74 : decode cX2_datePart 74 = .ok (.invokestatic 326, 3) := by decide +kernel
theorem dX2_datePart_77 : decode cX2_datePart 77 = .ok (.ireturn, 1) := by decide +kernel
theorem dX2_datePart_78 : decode cX2_datePart 78 = .ok (.iload_n 2, 1) := by decide +kernel
theorem dX2_datePart_79 : decode cX2_datePart 79 = .ok (.invokestatic 311, 3) := by decide +kernel
theorem dX2_datePart_82 : decode cX2_datePart 82 = .ok (.ireturn, 1) := by decide +kernel
theorem dX2_datePart_83 : decode cX2_datePart 83 = .ok (.iload_n 2, 1) := by decide +kernel
theorem dX2_datePart_84 : decode cX2_datePart 84 = .ok (.invokestatic 350, 3) := by decide +kernel
theorem dX2_datePart_87 : decode cX2_datePart 87 = .ok (.ireturn, 1) := by decide +kernel
theorem dX2_datePart_88 : decode cX2_datePart 88 = .ok (.aload_n 0, 1) := by decide +kernel
theorem dX2_datePart_89 : decode cX2_datePart 89 = .ok (.invokevirtual 335, 3) := by decide +kernel
theorem dX2_datePart_92 : decode cX2_datePart 92 = .ok (.ireturn, 1) := by decide +kernel
theorem dX2_datePart_93 : decode cX2_datePart 93 = .ok (.aload_n 0, 1) := by decide +kernel
theorem dX2_datePart_94 : decode cX2_datePart 94 = .ok (.invokevirtual 342, 3) := by decide +kernel
theorem dX2_datePart_97 : decode cX2_datePart 97 = .ok (.ireturn, 1) := by decide +kernel
theorem dX2_datePart_98 : decode cX2_datePart 98 = .ok (.aload_n 0, 1) := by decide +kernel
theorem dX2_datePart_99 : decode cX2_datePart 99 = .ok (.invokevirtual 345, 3) := by decide +kernel
theorem dX2_datePart_102 : decode cX2_datePart 102 = .ok (.ireturn, 1) := by decide +kernel
theorem dX2_datePart_103 : decode cX2_datePart 103 = .ok (.aload_n 0, 1) := by decide +kernel
theorem dX2_datePart_104 : decode cX2_datePart 104 = .ok (.getfield 172, 3) := by decide +kernel
theorem dX2_datePart_107 : decode cX2_datePart 107 = .ok (.ireturn, 1) := by decide +kernel
theorem dX2_datePart_108 : decode cX2_datePart 108 = .ok (.iload_n 2, 1) := by decide +kernel
theorem dX2_datePart_109 : decode cX2_datePart 109 = .ok (.invokestatic 353, 3) := by decide +kernel
theorem dX2_datePart_112 : decode cX2_datePart 112 = .ok (.ireturn, 1) := by decide +kernel
theorem dX2_datePart_113 : decode cX2_datePart 113 = .ok (.aload_n 0, 1) := by decide +kernel
theorem dX2_datePart_114 : decode cX2_datePart 114 = .ok (.getfield 158, 3) := by decide +kernel
theorem dX2_datePart_117 : decode cX2_datePart 117 = .ok (.ireturn, 1) := by decide +kernel
theorem dX2_datePart_118 : decode cX2_datePart 118 = .ok (.aload_n 0, 1) := by decide +kernel
theorem dX2_datePart_119 : decode cX2_datePart 119 = .ok (.invokevirtual 169, 3) := by decide +kernel
theorem dX2_datePart_122 : decode cX2_datePart 122 = .ok (.l2i, 1) := by decide +kernel
theorem dX2_datePart_123 : decode cX2_datePart 123 = .ok (.ireturn, 1) := by decide +kernel
theorem dX2_datePart_124 : decode cX2_datePart 124 = .ok (.iload_n 2, 1) := by decide +kernel
theorem dX2_datePart_125 : decode cX2_datePart 125 = .ok (.ireturn, 1) := by decide +kernel
theorem dX2_datePart_126 : decode cX2_datePart 126 = .ok (.aload_n 0, 1) := by decide +kernel
theorem dX2_datePart_127 : decode cX2_datePart 127 = .ok (.invokevirtual 320, 3) := by decide +kernel
theorem dX2_datePart_130 : decode cX2_datePart 130 = .ok (.ireturn, 1) := by decide +kernel
set_option maxHeartbeats 4000000 in
set_option maxRecDepth 20000 in
theorem c_X2_datePart (tys : List (ClassId × FieldType)) (ws : va_W) (q0 a0 : Nat) (s0 : Int64) (n0 o0 : Int32) (h0 : ws[q0]? = some (a0, .inr (2, [.long s0, .int n0, .int o0]))) (p1 : Int32) : mCt tys yX2_datePart cX2_datePart 3 (some .int) ⟨4, 0, 0, 85⟩ [.ref a0, .int p1] ws (mRi ws) mNo := by
  refine mCt.of (by decide +kernel) (Nat.le_of_ble_eq_true rfl) (fun X hX hE => ?_)
  have hX : mOK X RX2 cX2_datePart 3 ⟨4, 0, 0, 85⟩ [] tys := hX
  refine r_aload_n hX dX2_datePart_0 rfl rfl ?_
  refine r_callV hX (c_X1_day _ _ q0 _ _ _ _ h0) kv_X2_274 q0 h0 rfl rfl rfl (Nat.le_of_ble_eq_true rfl) ⟨(Nat.le_of_ble_eq_true rfl), (Nat.le_of_ble_eq_true rfl)⟩ ⟨(Nat.le_of_ble_eq_true rfl), (Nat.le_of_ble_eq_true rfl)⟩ dX2_datePart_1 (fun _ _ z => False.elim z) (fun v9 ws9 h1 => ?_)
  obtain ⟨r3, rfl, hw9⟩ := h1
  subst ws9
  dsimp only [mPush]
  refine r_istore_n hX dX2_datePart_4 rfl (by decide) rfl ?_
  refine r_iload_n hX dX2_datePart_5 rfl rfl ?_
  by_cases s4 : p1.toInt = 0
  · refine r_tableIn (off := 62) (tgt := 68) hX dX2_datePart_6 (by omega) (by omega) (by rw [s4]; rfl) (by decide) ?_
    refine r_iload_n hX dX2_datePart_68 rfl rfl ?_
    refine r_callS hX (c_X0_yearOf _ _ _) ks_X2_323 rfl rfl (Nat.le_of_ble_eq_true rfl) ⟨(Nat.le_of_ble_eq_true rfl), (Nat.le_of_ble_eq_true rfl)⟩ ⟨(Nat.le_of_ble_eq_true rfl), (Nat.le_of_ble_eq_true rfl)⟩ dX2_datePart_69 (fun _ _ z => False.elim z) (fun v9 ws9 h5 => ?_)
    obtain ⟨r7, rfl, hw9⟩ := h5
    subst ws9
    dsimp only [mPush]
    exact r_iret hX hE dX2_datePart_72 (Nat.le_of_ble_eq_true rfl) (Nat.le_of_ble_eq_true rfl) ⟨_, rfl, rfl⟩
  by_cases s8 : p1.toInt = 1
  · refine r_tableIn (off := 67) (tgt := 73) hX dX2_datePart_6 (by omega) (by omega) (by rw [s8]; rfl) (by decide) ?_
    refine r_iload_n hX dX2_datePart_73 rfl rfl ?_
    refine r_callS hX (c_X0_monthOf _ _ _) ks_X2_326 rfl rfl (Nat.le_of_ble_eq_true rfl) ⟨(Nat.le_of_ble_eq_true rfl), (Nat.le_of_ble_eq_true rfl)⟩ ⟨(Nat.le_of_ble_eq_true rfl), (Nat.le_of_ble_eq_true rfl)⟩ dX2_datePart_74 (fun _ _ z => False.elim z) (fun v9 ws9 h9 => ?_)
    obtain ⟨r11, rfl, hw9⟩ := h9
    subst ws9
    dsimp only [mPush]
    exact r_iret hX hE dX2_datePart_77 (Nat.le_of_ble_eq_true rfl) (Nat.le_of_ble_eq_true rfl) ⟨_, rfl, rfl⟩
  by_cases s12 : p1.toInt = 2
  · refine r_tableIn (off := 72) (tgt := 78) hX dX2_datePart_6 (by omega) (by omega) (by rw [s12]; rfl) (by decide) ?_
    refine r_iload_n hX dX2_datePart_78 rfl rfl ?_
    refine r_callS hX (c_X0_dayOfMonth _ _ _) ks_X2_311 rfl rfl (Nat.le_of_ble_eq_true rfl) ⟨(Nat.le_of_ble_eq_true rfl), (Nat.le_of_ble_eq_true rfl)⟩ ⟨(Nat.le_of_ble_eq_true rfl), (Nat.le_of_ble_eq_true rfl)⟩ dX2_datePart_79 (fun _ _ z => False.elim z) (fun v9 ws9 h13 => ?_)
    obtain ⟨r15, rfl, hw9⟩ := h13
    subst ws9
    dsimp only [mPush]
    exact r_iret hX hE dX2_datePart_82 (Nat.le_of_ble_eq_true rfl) (Nat.le_of_ble_eq_true rfl) ⟨_, rfl, rfl⟩
  by_cases s16 : p1.toInt = 3
  · refine r_tableIn (off := 77) (tgt := 83) hX dX2_datePart_6 (by omega) (by omega) (by rw [s16]; rfl) (by decide) ?_
    refine r_iload_n hX dX2_datePart_83 rfl rfl ?_
    refine r_callS hX (c_X0_dayOfYear _ _ _) ks_X2_350 rfl rfl (Nat.le_of_ble_eq_true rfl) ⟨(Nat.le_of_ble_eq_true rfl), (Nat.le_of_ble_eq_true rfl)⟩ ⟨(Nat.le_of_ble_eq_true rfl), (Nat.le_of_ble_eq_true rfl)⟩ dX2_datePart_84 (fun _ _ z => False.elim z) (fun v9 ws9 h17 => ?_)
    obtain ⟨r19, rfl, hw9⟩ := h17
    subst ws9
    dsimp only [mPush]
    exact r_iret hX hE dX2_datePart_87 (Nat.le_of_ble_eq_true rfl) (Nat.le_of_ble_eq_true rfl) ⟨_, rfl, rfl⟩
  by_cases s20 : p1.toInt = 4
  · refine r_tableIn (off := 82) (tgt := 88) hX dX2_datePart_6 (by omega) (by omega) (by rw [s20]; rfl) (by decide) ?_
    refine r_aload_n hX dX2_datePart_88 rfl rfl ?_
    refine r_callV hX (c_X1_hour _ _ q0 _ _ _ _ h0) kv_X2_335 q0 h0 rfl rfl rfl (Nat.le_of_ble_eq_true rfl) ⟨(Nat.le_of_ble_eq_true rfl), (Nat.le_of_ble_eq_true rfl)⟩ ⟨(Nat.le_of_ble_eq_true rfl), (Nat.le_of_ble_eq_true rfl)⟩ dX2_datePart_89 (fun _ _ z => False.elim z) (fun v9 ws9 h21 => ?_)
    obtain ⟨r23, rfl, hw9⟩ := h21
    subst ws9
    dsimp only [mPush]
    exact r_iret hX hE dX2_datePart_92 (Nat.le_of_ble_eq_true rfl) (Nat.le_of_ble_eq_true rfl) ⟨_, rfl, rfl⟩
  by_cases s24 : p1.toInt = 5
  · refine r_tableIn (off := 87) (tgt := 93) hX dX2_datePart_6 (by omega) (by omega) (by rw [s24]; rfl) (by decide) ?_
    refine r_aload_n hX dX2_datePart_93 rfl rfl ?_
    refine r_callV hX (c_X1_minute _ _ q0 _ _ _ _ h0) kv_X2_342 q0 h0 rfl rfl rfl (Nat.le_of_ble_eq_true rfl) ⟨(Nat.le_of_ble_eq_true rfl), (Nat.le_of_ble_eq_true rfl)⟩ ⟨(Nat.le_of_ble_eq_true rfl), (Nat.le_of_ble_eq_true rfl)⟩ dX2_datePart_94 (fun _ _ z => False.elim z) (fun v9 ws9 h25 => ?_)
    obtain ⟨r27, rfl, hw9⟩ := h25
    subst ws9
    dsimp only [mPush]
    exact r_iret hX hE dX2_datePart_97 (Nat.le_of_ble_eq_true rfl) (Nat.le_of_ble_eq_true rfl) ⟨_, rfl, rfl⟩
  by_cases s28 : p1.toInt = 6
  · refine r_tableIn (off := 92) (tgt := 98) hX dX2_datePart_6 (by omega) (by omega) (by rw [s28]; rfl) (by decide) ?_
    refine r_aload_n hX dX2_datePart_98 rfl rfl ?_
    refine r_callV hX (c_X1_secondOfMinute _ _ q0 _ _ _ _ h0) kv_X2_345 q0 h0 rfl rfl rfl (Nat.le_of_ble_eq_true rfl) ⟨(Nat.le_of_ble_eq_true rfl), (Nat.le_of_ble_eq_true rfl)⟩ ⟨(Nat.le_of_ble_eq_true rfl), (Nat.le_of_ble_eq_true rfl)⟩ dX2_datePart_99 (fun _ _ z => False.elim z) (fun v9 ws9 h29 => ?_)
    obtain ⟨r31, rfl, hw9⟩ := h29
    subst ws9
    dsimp only [mPush]
    exact r_iret hX hE dX2_datePart_102 (Nat.le_of_ble_eq_true rfl) (Nat.le_of_ble_eq_true rfl) ⟨_, rfl, rfl⟩
  by_cases s32 : p1.toInt = 7
  · refine r_tableIn (off := 97) (tgt := 103) hX dX2_datePart_6 (by omega) (by omega) (by rw [s32]; rfl) (by decide) ?_
    refine r_aload_n hX dX2_datePart_103 rfl rfl ?_
    refine r_getN hX kg_X2_172 q0 h0 rfl dX2_datePart_104 ?_
    exact r_iret hX hE dX2_datePart_107 (Nat.le_of_ble_eq_true rfl) (Nat.le_of_ble_eq_true rfl) ⟨_, rfl, rfl⟩
  by_cases s33 : p1.toInt = 8
  · refine r_tableIn (off := 102) (tgt := 108) hX dX2_datePart_6 (by omega) (by omega) (by rw [s33]; rfl) (by decide) ?_
    refine r_iload_n hX dX2_datePart_108 rfl rfl ?_
    refine r_callS hX (c_X0_dayOfWeek _ _ _) ks_X2_353 rfl rfl (Nat.le_of_ble_eq_true rfl) ⟨(Nat.le_of_ble_eq_true rfl), (Nat.le_of_ble_eq_true rfl)⟩ ⟨(Nat.le_of_ble_eq_true rfl), (Nat.le_of_ble_eq_true rfl)⟩ dX2_datePart_109 (fun _ _ z => False.elim z) (fun v9 ws9 h34 => ?_)
    obtain ⟨r36, rfl, hw9⟩ := h34
    subst ws9
    dsimp only [mPush]
    exact r_iret hX hE dX2_datePart_112 (Nat.le_of_ble_eq_true rfl) (Nat.le_of_ble_eq_true rfl) ⟨_, rfl, rfl⟩
  by_cases s37 : p1.toInt = 9
  · refine r_tableIn (off := 107) (tgt := 113) hX dX2_datePart_6 (by omega) (by omega) (by rw [s37]; rfl) (by decide) ?_
    refine r_aload_n hX dX2_datePart_113 rfl rfl ?_
    refine r_getN hX kg_X2_158 q0 h0 rfl dX2_datePart_114 ?_
    exact r_iret hX hE dX2_datePart_117 (Nat.le_of_ble_eq_true rfl) (Nat.le_of_ble_eq_true rfl) ⟨_, rfl, rfl⟩
  by_cases s38 : p1.toInt = 10
  · refine r_tableIn (off := 112) (tgt := 118) hX dX2_datePart_6 (by omega) (by omega) (by rw [s38]; rfl) (by decide) ?_
    refine r_aload_n hX dX2_datePart_118 rfl rfl ?_
    refine r_callV hX (c_X1_momentSecond _ _ q0 _ _ _ _ h0) kv_X2_169 q0 h0 rfl rfl rfl (Nat.le_of_ble_eq_true rfl) ⟨(Nat.le_of_ble_eq_true rfl), (Nat.le_of_ble_eq_true rfl)⟩ ⟨(Nat.le_of_ble_eq_true rfl), (Nat.le_of_ble_eq_true rfl)⟩ dX2_datePart_119 (fun _ _ z => False.elim z) (fun v9 ws9 h39 => ?_)
    obtain ⟨r41, rfl, hw9⟩ := h39
    subst ws9
    dsimp only [mPush]
    refine r_l2i hX dX2_datePart_122 ?_
    exact r_iret hX hE dX2_datePart_123 (Nat.le_of_ble_eq_true rfl) (Nat.le_of_ble_eq_true rfl) ⟨_, rfl, rfl⟩
  by_cases s42 : p1.toInt = 11
  · refine r_tableIn (off := 118) (tgt := 124) hX dX2_datePart_6 (by omega) (by omega) (by rw [s42]; rfl) (by decide) ?_
    refine r_iload_n hX dX2_datePart_124 rfl rfl ?_
    exact r_iret hX hE dX2_datePart_125 (Nat.le_of_ble_eq_true rfl) (Nat.le_of_ble_eq_true rfl) ⟨_, rfl, rfl⟩
  refine r_tableOut (tgt := 126) hX dX2_datePart_6 (by omega) (by decide) ?_
  refine r_aload_n hX dX2_datePart_126 rfl rfl ?_
  refine r_callV hX (c_X1_secondOfDay _ _ q0 _ _ _ _ h0) kv_X2_320 q0 h0 rfl rfl rfl (Nat.le_of_ble_eq_true rfl) ⟨(Nat.le_of_ble_eq_true rfl), (Nat.le_of_ble_eq_true rfl)⟩ ⟨(Nat.le_of_ble_eq_true rfl), (Nat.le_of_ble_eq_true rfl)⟩ dX2_datePart_127 (fun _ _ z => False.elim z) (fun v9 ws9 h43 => ?_)
  obtain ⟨r45, rfl, hw9⟩ := h43
  subst ws9
  dsimp only [mPush]
  exact r_iret hX hE dX2_datePart_130 (Nat.le_of_ble_eq_true rfl) (Nat.le_of_ble_eq_true rfl) ⟨_, rfl, rfl⟩
theorem dX2_clockPart_0 : decode cX2_clockPart 0 = .ok (.iload_n 1, 1) := by decide +kernel
theorem dX2_clockPart_1 : decode cX2_clockPart 1 = .ok (.tableswitch 60 0 4 #[35, 40, 45, 50, 55], 35) := by decide +kernel
theorem dX2_clockPart_36 : decode cX2_clockPart 36 = .ok (.aload_n 0, 1) := by decide +kernel
theorem dX2_clockPart_37 : decode cX2_clockPart 37 = .ok (.invokevirtual 335, 3) := by decide +kernel
theorem dX2_clockPart_40 : decode cX2_clockPart 40 = .ok (.ireturn, 1) := by decide +kernel
theorem dX2_clockPart_41 : decode cX2_clockPart 41 = .ok (.aload_n 0, 1) := by decide +kernel
theorem dX2_clockPart_42 : decode cX2_clockPart 42 = .ok (.invokevirtual 342, 3) := by decide +kernel
theorem dX2_clockPart_45 : decode cX2_clockPart 45 = .ok (.ireturn, 1) := by decide +kernel
theorem dX2_clockPart_46 : decode cX2_clockPart 46 = .ok (.aload_n 0, 1) := by decide +kernel
theorem dX2_clockPart_47 : decode cX2_clockPart 47 = .ok (.invokevirtual 345, 3) := by decide +kernel
theorem dX2_clockPart_50 : decode cX2_clockPart 50 = .ok (.ireturn, 1) := by decide +kernel
theorem dX2_clockPart_51 : decode cX2_clockPart 51 = .ok (.aload_n 0, 1) := by decide +kernel
theorem dX2_clockPart_52 : decode cX2_clockPart 52 = .ok (.getfield 172, 3) := by decide +kernel
theorem dX2_clockPart_55 : decode cX2_clockPart 55 = .ok (.ireturn, 1) := by decide +kernel
theorem dX2_clockPart_56 : decode cX2_clockPart 56 = .ok (.aload_n 0, 1) := by decide +kernel
theorem dX2_clockPart_57 : decode cX2_clockPart 57 = .ok (.getfield 158, 3) := by decide +kernel
theorem dX2_clockPart_60 : decode cX2_clockPart 60 = .ok (.ireturn, 1) := by decide +kernel
theorem dX2_clockPart_61 : decode cX2_clockPart 61 = .ok (.aload_n 0, 1) := by decide +kernel
theorem dX2_clockPart_62 : decode cX2_clockPart 62 = .ok (.invokevirtual 320, 3) := by decide +kernel
theorem dX2_clockPart_65 : decode cX2_clockPart 65 = .ok (.ireturn, 1) := by decide +kernel
set_option maxHeartbeats 4000000 in
set_option maxRecDepth 20000 in
theorem c_X2_clockPart (tys : List (ClassId × FieldType)) (ws : va_W) (q0 a0 : Nat) (s0 : Int64) (n0 o0 : Int32) (h0 : ws[q0]? = some (a0, .inr (2, [.long s0, .int n0, .int o0]))) (p1 : Int32) : mCt tys yX2_clockPart cX2_clockPart 2 (some .int) ⟨3, 0, 0, 65⟩ [.ref a0, .int p1] ws (mRi ws) mNo := by
  refine mCt.of (by decide +kernel) (Nat.le_of_ble_eq_true rfl) (fun X hX hE => ?_)
  have hX : mOK X RX2 cX2_clockPart 2 ⟨3, 0, 0, 65⟩ [] tys := hX
  refine r_iload_n hX dX2_clockPart_0 rfl rfl ?_
  by_cases s1 : p1.toInt = 0
  · refine r_tableIn (off := 35) (tgt := 36) hX dX2_clockPart_1 (by omega) (by omega) (by rw [s1]; rfl) (by decide) ?_
    refine r_aload_n hX dX2_clockPart_36 rfl rfl ?_
    refine r_callV hX (c_X1_hour _ _ q0 _ _ _ _ h0) kv_X2_335 q0 h0 rfl rfl rfl (Nat.le_of_ble_eq_true rfl) ⟨(Nat.le_of_ble_eq_true rfl), (Nat.le_of_ble_eq_true rfl)⟩ ⟨(Nat.le_of_ble_eq_true rfl), (Nat.le_of_ble_eq_true rfl)⟩ dX2_clockPart_37 (fun _ _ z => False.elim z) (fun v9 ws9 h2 => ?_)
    obtain ⟨r4, rfl, hw9⟩ := h2
    subst ws9
    dsimp only [mPush]
    exact r_iret hX hE dX2_clockPart_40 (Nat.le_of_ble_eq_true rfl) (Nat.le_of_ble_eq_true rfl) ⟨_, rfl, rfl⟩
  by_cases s5 : p1.toInt = 1
  · refine r_tableIn (off := 40) (tgt := 41) hX dX2_clockPart_1 (by omega) (by omega) (by rw [s5]; rfl) (by decide) ?_
    refine r_aload_n hX dX2_clockPart_41 rfl rfl ?_
    refine r_callV hX (c_X1_minute _ _ q0 _ _ _ _ h0) kv_X2_342 q0 h0 rfl rfl rfl (Nat.le_of_ble_eq_true rfl) ⟨(Nat.le_of_ble_eq_true rfl), (Nat.le_of_ble_eq_true rfl)⟩ ⟨(Nat.le_of_ble_eq_true rfl), (Nat.le_of_ble_eq_true rfl)⟩ dX2_clockPart_42 (fun _ _ z => False.elim z) (fun v9 ws9 h6 => ?_)
    obtain ⟨r8, rfl, hw9⟩ := h6
    subst ws9
    dsimp only [mPush]
    exact r_iret hX hE dX2_clockPart_45 (Nat.le_of_ble_eq_true rfl) (Nat.le_of_ble_eq_true rfl) ⟨_, rfl, rfl⟩
  by_cases s9 : p1.toInt = 2
  · refine r_tableIn (off := 45) (tgt := 46) hX dX2_clockPart_1 (by omega) (by omega) (by rw [s9]; rfl) (by decide) ?_
    refine r_aload_n hX dX2_clockPart_46 rfl rfl ?_
    refine r_callV hX (c_X1_secondOfMinute _ _ q0 _ _ _ _ h0) kv_X2_345 q0 h0 rfl rfl rfl (Nat.le_of_ble_eq_true rfl) ⟨(Nat.le_of_ble_eq_true rfl), (Nat.le_of_ble_eq_true rfl)⟩ ⟨(Nat.le_of_ble_eq_true rfl), (Nat.le_of_ble_eq_true rfl)⟩ dX2_clockPart_47 (fun _ _ z => False.elim z) (fun v9 ws9 h10 => ?_)
    obtain ⟨r12, rfl, hw9⟩ := h10
    subst ws9
    dsimp only [mPush]
    exact r_iret hX hE dX2_clockPart_50 (Nat.le_of_ble_eq_true rfl) (Nat.le_of_ble_eq_true rfl) ⟨_, rfl, rfl⟩
  by_cases s13 : p1.toInt = 3
  · refine r_tableIn (off := 50) (tgt := 51) hX dX2_clockPart_1 (by omega) (by omega) (by rw [s13]; rfl) (by decide) ?_
    refine r_aload_n hX dX2_clockPart_51 rfl rfl ?_
    refine r_getN hX kg_X2_172 q0 h0 rfl dX2_clockPart_52 ?_
    exact r_iret hX hE dX2_clockPart_55 (Nat.le_of_ble_eq_true rfl) (Nat.le_of_ble_eq_true rfl) ⟨_, rfl, rfl⟩
  by_cases s14 : p1.toInt = 4
  · refine r_tableIn (off := 55) (tgt := 56) hX dX2_clockPart_1 (by omega) (by omega) (by rw [s14]; rfl) (by decide) ?_
    refine r_aload_n hX dX2_clockPart_56 rfl rfl ?_
    refine r_getN hX kg_X2_158 q0 h0 rfl dX2_clockPart_57 ?_
    exact r_iret hX hE dX2_clockPart_60 (Nat.le_of_ble_eq_true rfl) (Nat.le_of_ble_eq_true rfl) ⟨_, rfl, rfl⟩
  refine r_tableOut (tgt := 61) hX dX2_clockPart_1 (by omega) (by decide) ?_
  refine r_aload_n hX dX2_clockPart_61 rfl rfl ?_
  refine r_callV hX (c_X1_secondOfDay _ _ q0 _ _ _ _ h0) kv_X2_320 q0 h0 rfl rfl rfl (Nat.le_of_ble_eq_true rfl) ⟨(Nat.le_of_ble_eq_true rfl), (Nat.le_of_ble_eq_true rfl)⟩ ⟨(Nat.le_of_ble_eq_true rfl), (Nat.le_of_ble_eq_true rfl)⟩ dX2_clockPart_62 (fun _ _ z => False.elim z) (fun v9 ws9 h15 => ?_)
  obtain ⟨r17, rfl, hw9⟩ := h15
  subst ws9
  dsimp only [mPush]
  exact r_iret hX hE dX2_clockPart_65 (Nat.le_of_ble_eq_true rfl) (Nat.le_of_ble_eq_true rfl) ⟨_, rfl, rfl⟩
theorem dX2_isSo_0 : decode cX2_isSo 0 = .ok (.iload_n 2, 1) := by decide +kernel
theorem dX2_isSo_1 : decode cX2_isSo 1 = .ok (.tableswitch 45 0 2 #[27, 33, 39], 27) := by decide +kernel
theorem dX2_isSo_28 : decode cX2_isSo 28 = .ok (.aload_n 0, 1) := by decide +kernel
theorem dX2_isSo_29 : decode cX2_isSo 29 = .ok (.aload_n 1, 1) := by decide +kernel
theorem dX2_isSo_30 : decode cX2_isSo 30 = .ok (.invokevirtual 356, 3) := by decide +kernel
theorem dX2_isSo_33 : decode cX2_isSo 33 = .ok (.ireturn, 1) := by decide +kernel
theorem dX2_isSo_34 : decode cX2_isSo 34 = .ok (.aload_n 1, 1) := by decide +kernel
theorem dX2_isSo_35 : decode cX2_isSo 35 = .ok (.aload_n 0, 1) := by decide +kernel
theorem dX2_isSo_36 : decode cX2_isSo 36 = .ok (.invokevirtual 356, 3) := by decide +kernel
theorem dX2_isSo_39 : decode cX2_isSo 39 = .ok (.ireturn, 1) := by decide +kernel
theorem dX2_isSo_40 : decode cX2_isSo 40 = .ok (.aload_n 0, 1) := by decide +kernel
theorem dX2_isSo_41 : decode cX2_isSo 41 = .ok (.aload_n 1, 1) := by decide +kernel
theorem dX2_isSo_42 : decode cX2_isSo 42 = .ok (.invokevirtual 360, 3) := by decide +kernel
theorem dX2_isSo_45 : decode cX2_isSo 45 = .ok (.ireturn, 1) := by decide +kernel
theorem dX2_isSo_46 : decode cX2_isSo 46 = .ok (.aload_n 0, 1) := by decide +kernel
theorem dX2_isSo_47 : decode cX2_isSo 47 = .ok (.aload_n 1, 1) := by decide +kernel
theorem dX2_isSo_48 : decode cX2_isSo 48 = .ok (.invokevirtual 363, 3) := by decide +kernel
theorem dX2_isSo_51 : decode cX2_isSo 51 = .ok (.ireturn, 1) := by decide +kernel
set_option maxHeartbeats 4000000 in
set_option maxRecDepth 20000 in
theorem c_X2_isSo (tys : List (ClassId × FieldType)) (ws : va_W) (q0 a0 : Nat) (s0 : Int64) (n0 o0 : Int32) (h0 : ws[q0]? = some (a0, .inr (2, [.long s0, .int n0, .int o0]))) (q1 a1 : Nat) (s1 : Int64) (n1 o1 : Int32) (h1 : ws[q1]? = some (a1, .inr (2, [.long s1, .int n1, .int o1]))) (p2 : Int32) : mCt tys yX2_isSo cX2_isSo 3 (some .boolean) ⟨3, 0, 0, 66⟩ [.ref a0, .ref a1, .int p2] ws (mRb ws) mNo := by
  refine mCt.of (by decide +kernel) (Nat.le_of_ble_eq_true rfl) (fun X hX hE => ?_)
  have hX : mOK X RX2 cX2_isSo 3 ⟨3, 0, 0, 66⟩ [] tys := hX
  refine r_iload_n hX dX2_isSo_0 rfl rfl ?_
  by_cases s1 : p2.toInt = 0
  · refine r_tableIn (off := 27) (tgt := 28) hX dX2_isSo_1 (by omega) (by omega) (by rw [s1]; rfl) (by decide) ?_
    refine r_aload_n hX dX2_isSo_28 rfl rfl ?_
    refine r_aload_n hX dX2_isSo_29 rfl rfl ?_
    refine r_callV hX (c_X1_isAhead _ _ q0 _ _ _ _ h0 q1 _ _ _ _ h1) kv_X2_356 q0 h0 rfl rfl rfl (Nat.le_of_ble_eq_true rfl) ⟨(Nat.le_of_ble_eq_true rfl), (Nat.le_of_ble_eq_true rfl)⟩ ⟨(Nat.le_of_ble_eq_true rfl), (Nat.le_of_ble_eq_true rfl)⟩ dX2_isSo_30 (fun _ _ z => False.elim z) (fun v9 ws9 h2 => ?_)
    obtain ⟨r4, br4, rfl, hw9⟩ := h2
    subst ws9
    dsimp only [mPush]
    exact r_zret hX hE dX2_isSo_33 (mB_n br4) (Nat.le_of_ble_eq_true rfl) (Nat.le_of_ble_eq_true rfl) ⟨_, br4, rfl, rfl⟩
  by_cases s5 : p2.toInt = 1
  · refine r_tableIn (off := 33) (tgt := 34) hX dX2_isSo_1 (by omega) (by omega) (by rw [s5]; rfl) (by decide) ?_
    refine r_aload_n hX dX2_isSo_34 rfl rfl ?_
    refine r_aload_n hX dX2_isSo_35 rfl rfl ?_
    refine r_callV hX (c_X1_isAhead _ _ q1 _ _ _ _ h1 q0 _ _ _ _ h0) kv_X2_356 q1 h1 rfl rfl rfl (Nat.le_of_ble_eq_true rfl) ⟨(Nat.le_of_ble_eq_true rfl), (Nat.le_of_ble_eq_true rfl)⟩ ⟨(Nat.le_of_ble_eq_true rfl), (Nat.le_of_ble_eq_true rfl)⟩ dX2_isSo_36 (fun _ _ z => False.elim z) (fun v9 ws9 h6 => ?_)
    obtain ⟨r8, br8, rfl, hw9⟩ := h6
    subst ws9
    dsimp only [mPush]
    exact r_zret hX hE dX2_isSo_39 (mB_n br8) (Nat.le_of_ble_eq_true rfl) (Nat.le_of_ble_eq_true rfl) ⟨_, br8, rfl, rfl⟩
  by_cases s9 : p2.toInt = 2
  · refine r_tableIn (off := 39) (tgt := 40) hX dX2_isSo_1 (by omega) (by omega) (by rw [s9]; rfl) (by decide) ?_
    refine r_aload_n hX dX2_isSo_40 rfl rfl ?_
    refine r_aload_n hX dX2_isSo_41 rfl rfl ?_
    refine r_callV hX (c_X1_isAlike _ _ q0 _ _ _ _ h0 q1 _ _ _ _ h1) kv_X2_360 q0 h0 rfl rfl rfl (Nat.le_of_ble_eq_true rfl) ⟨(Nat.le_of_ble_eq_true rfl), (Nat.le_of_ble_eq_true rfl)⟩ ⟨(Nat.le_of_ble_eq_true rfl), (Nat.le_of_ble_eq_true rfl)⟩ dX2_isSo_42 (fun _ _ z => False.elim z) (fun v9 ws9 h10 => ?_)
    obtain ⟨r12, br12, rfl, hw9⟩ := h10
    subst ws9
    dsimp only [mPush]
    exact r_zret hX hE dX2_isSo_45 (mB_n br12) (Nat.le_of_ble_eq_true rfl) (Nat.le_of_ble_eq_true rfl) ⟨_, br12, rfl, rfl⟩
  refine r_tableOut (tgt := 46) hX dX2_isSo_1 (by omega) (by decide) ?_
  refine r_aload_n hX dX2_isSo_46 rfl rfl ?_
  refine r_aload_n hX dX2_isSo_47 rfl rfl ?_
  refine r_callV hX (c_X1_isSame _ _ q0 _ _ _ _ h0 q1 _ _ _ _ h1) kv_X2_363 q0 h0 rfl rfl rfl (Nat.le_of_ble_eq_true rfl) ⟨(Nat.le_of_ble_eq_true rfl), (Nat.le_of_ble_eq_true rfl)⟩ ⟨(Nat.le_of_ble_eq_true rfl), (Nat.le_of_ble_eq_true rfl)⟩ dX2_isSo_48 (fun _ _ z => False.elim z) (fun v9 ws9 h13 => ?_)
  obtain ⟨r15, br15, rfl, hw9⟩ := h13
  subst ws9
  dsimp only [mPush]
  exact r_zret hX hE dX2_isSo_51 (mB_n br15) (Nat.le_of_ble_eq_true rfl) (Nat.le_of_ble_eq_true rfl) ⟨_, br15, rfl, rfl⟩
theorem dX2_isPairSound_0 : decode cX2_isPairSound 0 = .ok (.aload_n 0, 1) := by decide +kernel
theorem dX2_isPairSound_1 : decode cX2_isPairSound 1 = .ok (.aload_n 1, 1) := by decide +kernel
theorem dX2_isPairSound_2 : decode cX2_isPairSound 2 = .ok (.invokevirtual 356, 3) := by decide +kernel
theorem dX2_isPairSound_5 : decode cX2_isPairSound 5 = .ok (.ifCond .ne 15, 3) := by decide +kernel
theorem dX2_isPairSound_8 : decode cX2_isPairSound 8 = .ok (.aload_n 1, 1) := by decide +kernel
theorem dX2_isPairSound_9 : decode cX2_isPairSound 9 = .ok (.aload_n 0, 1) := by decide +kernel
theorem dX2_isPairSound_10 : decode cX2_isPairSound 10 = .ok (.invokevirtual 356, 3) := by decide +kernel
theorem dX2_isPairSound_13 : decode cX2_isPairSound 13 = .ok (.ifCond .ne 7, 3) := by decide +kernel
theorem dX2_isPairSound_16 : decode cX2_isPairSound 16 = .ok (.iconst 1, 1) := by decide +kernel
theorem dX2_isPairSound_17 : decode cX2_isPairSound 17 = .ok (.goto 4, 3) := by decide +kernel
theorem dX2_isPairSound_20 : decode cX2_isPairSound 20 = .ok (.iconst 0, 1) := by decide +kernel
theorem dX2_isPairSound_21 : decode cX2_isPairSound 21 = .ok (.istore_n 2, 1) := by decide +kernel
theorem dX2_isPairSound_22 : decode cX2_isPairSound 22 = .ok (.aload_n 0, 1) := by decide +kernel
theorem dX2_isPairSound_23 : decode cX2_isPairSound 23 = .ok (.aload_n 1, 1) := by decide +kernel
theorem dX2_isPairSound_24 : decode cX2_isPairSound 24 = .ok (.invokevirtual 179, 3) := by decide +kernel
theorem dX2_isPairSound_27 : decode cX2_isPairSound 27 = .ok (.istore_n 3, 1) := by decide +kernel
theorem dX2_isPairSound_28 : decode cX2_isPairSound 28 = .ok (.aload_n 0, 1) := by decide +kernel
theorem dX2_isPairSound_29 : decode cX2_isPairSound 29 = .ok (.aload_n 1, 1) := by decide +kernel
theorem dX2_isPairSound_30 : decode cX2_isPairSound 30 = .ok (.invokevirtual 360, 3) := by decide +kernel
theorem dX2_isPairSound_33 : decode cX2_isPairSound 33 = .ok (.iload_n 2, 1) := by decide +kernel
theorem dX2_isPairSound_34 : decode cX2_isPairSound 34 = .ok (.if_icmp .ne 29, 3) := by decide +kernel
theorem dX2_isPairSound_37 : decode cX2_isPairSound 37 = .ok (.iload_n 3, 1) := by decide +kernel
theorem dX2_isPairSound_38 : decode cX2_isPairSound 38 = .ok (.aload_n 1, 1) := by decide +kernel
theorem dX2_isPairSound_39 : decode cX2_isPairSound 39 = .ok (.aload_n 0, 1) := by decide +kernel
theorem dX2_isPairSound_40 : decode cX2_isPairSound 40 = .ok (.invokevirtual 179, 3) := by decide +kernel
theorem dX2_isPairSound_43 : decode cX2_isPairSound 43 = .ok (.ineg, 1) := by decide +kernel
theorem dX2_isPairSound_44 : decode cX2_isPairSound 44 = .ok (.if_icmp .ne 19, 3) := by decide +kernel
theorem dX2_isPairSound_47 : decode cX2_isPairSound 47 = .ok (.aload_n 0, 1) := by decide +kernel
theorem dX2_isPairSound_48 : decode cX2_isPairSound 48 = .ok (.aload_n 1, 1) := by decide +kernel
theorem dX2_isPairSound_49 : decode cX2_isPairSound 49 = .ok (.invokevirtual 363, 3) := by decide +kernel
theorem dX2_isPairSound_52 : decode cX2_isPairSound 52 = .ok (.ifCond .eq 7, 3) := by decide +kernel
theorem dX2_isPairSound_55 : decode cX2_isPairSound 55 = .ok (.iload_n 3, 1) := by decide +kernel
theorem dX2_isPairSound_56 : decode cX2_isPairSound 56 = .ok (.ifCond .ne 7, 3) := by decide +kernel
theorem dX2_isPairSound_59 : decode cX2_isPairSound 59 = .ok (.iconst 1, 1) := by decide +kernel
theorem dX2_isPairSound_60 : decode cX2_isPairSound 60 = .ok (.goto 4, 3) := by decide +kernel
theorem dX2_isPairSound_63 : decode cX2_isPairSound 63 = .ok (.iconst 0, 1) := by decide +kernel
theorem dX2_isPairSound_64 : decode cX2_isPairSound 64 = .ok (.ireturn, 1) := by decide +kernel
set_option maxHeartbeats 4000000 in
set_option maxRecDepth 20000 in
theorem c_X2_isPairSound (tys : List (ClassId × FieldType)) (ws : va_W) (q0 a0 : Nat) (s0 : Int64) (n0 o0 : Int32) (h0 : ws[q0]? = some (a0, .inr (2, [.long s0, .int n0, .int o0]))) (q1 a1 : Nat) (s1 : Int64) (n1 o1 : Int32) (h1 : ws[q1]? = some (a1, .inr (2, [.long s1, .int n1, .int o1]))) : mCt tys yX2_isPairSound cX2_isPairSound 4 (some .boolean) ⟨3, 0, 0, 67⟩ [.ref a0, .ref a1] ws (mRb ws) mNo := by
  refine mCt.of (by decide +kernel) (Nat.le_of_ble_eq_true rfl) (fun X hX hE => ?_)
  have hX : mOK X RX2 cX2_isPairSound 4 ⟨3, 0, 0, 67⟩ [] tys := hX
  refine r_aload_n hX dX2_isPairSound_0 rfl rfl ?_
  refine r_aload_n hX dX2_isPairSound_1 rfl rfl ?_
  refine r_callV hX (c_X1_isAhead _ _ q0 _ _ _ _ h0 q1 _ _ _ _ h1) kv_X2_356 q0 h0 rfl rfl rfl (Nat.le_of_ble_eq_true rfl) ⟨(Nat.le_of_ble_eq_true rfl), (Nat.le_of_ble_eq_true rfl)⟩ ⟨(Nat.le_of_ble_eq_true rfl), (Nat.le_of_ble_eq_true rfl)⟩ dX2_isPairSound_2 (fun _ _ z => False.elim z) (fun v9 ws9 h1 => ?_)
  obtain ⟨r3, br3, rfl, hw9⟩ := h1
  subst ws9
  dsimp only [mPush]
  refine r_if_ne (tgt := 20) hX dX2_isPairSound_5 (by decide) (fun c4 => ?_) (fun c4 => ?_)
  · refine r_iconst (v := 0) hX dX2_isPairSound_20 (by decide) ?_
    refine r_istore_n hX dX2_isPairSound_21 rfl (by decide) rfl ?_
    refine r_aload_n hX dX2_isPairSound_22 rfl rfl ?_
    refine r_aload_n hX dX2_isPairSound_23 rfl rfl ?_
    refine r_callV hX (c_X1_orderTo _ _ q0 _ _ _ _ h0 q1 _ _ _ _ h1) kv_X2_179 q0 h0 rfl rfl rfl (Nat.le_of_ble_eq_true rfl) ⟨(Nat.le_of_ble_eq_true rfl), (Nat.le_of_ble_eq_true rfl)⟩ ⟨(Nat.le_of_ble_eq_true rfl), (Nat.le_of_ble_eq_true rfl)⟩ dX2_isPairSound_24 (fun _ _ z => False.elim z) (fun v9 ws9 h5 => ?_)
    obtain ⟨r7, rfl, hw9⟩ := h5
    subst ws9
    dsimp only [mPush]
    refine r_istore_n hX dX2_isPairSound_27 rfl (by decide) rfl ?_
    refine r_aload_n hX dX2_isPairSound_28 rfl rfl ?_
    refine r_aload_n hX dX2_isPairSound_29 rfl rfl ?_
    refine r_callV hX (c_X1_isAlike _ _ q0 _ _ _ _ h0 q1 _ _ _ _ h1) kv_X2_360 q0 h0 rfl rfl rfl (Nat.le_of_ble_eq_true rfl) ⟨(Nat.le_of_ble_eq_true rfl), (Nat.le_of_ble_eq_true rfl)⟩ ⟨(Nat.le_of_ble_eq_true rfl), (Nat.le_of_ble_eq_true rfl)⟩ dX2_isPairSound_30 (fun _ _ z => False.elim z) (fun v9 ws9 h8 => ?_)
    obtain ⟨r10, br10, rfl, hw9⟩ := h8
    subst ws9
    dsimp only [mPush]
    refine r_iload_n hX dX2_isPairSound_33 rfl rfl ?_
    refine r_icmp_ne (tgt := 63) hX dX2_isPairSound_34 (by decide) (fun c11 => ?_) (fun c11 => ?_)
    · refine r_iconst (v := 0) hX dX2_isPairSound_63 (by decide) ?_
      exact r_zret hX hE dX2_isPairSound_64 (mB_n (Or.inl rfl)) (Nat.le_of_ble_eq_true rfl) (Nat.le_of_ble_eq_true rfl) ⟨_, (Or.inl rfl), rfl, rfl⟩
    · refine r_iload_n hX dX2_isPairSound_37 rfl rfl ?_
      refine r_aload_n hX dX2_isPairSound_38 rfl rfl ?_
      refine r_aload_n hX dX2_isPairSound_39 rfl rfl ?_
      refine r_callV hX (c_X1_orderTo _ _ q1 _ _ _ _ h1 q0 _ _ _ _ h0) kv_X2_179 q1 h1 rfl rfl rfl (Nat.le_of_ble_eq_true rfl) ⟨(Nat.le_of_ble_eq_true rfl), (Nat.le_of_ble_eq_true rfl)⟩ ⟨(Nat.le_of_ble_eq_true rfl), (Nat.le_of_ble_eq_true rfl)⟩ dX2_isPairSound_40 (fun _ _ z => False.elim z) (fun v9 ws9 h12 => ?_)
      obtain ⟨r14, rfl, hw9⟩ := h12
      subst ws9
      dsimp only [mPush]
      refine r_ineg hX dX2_isPairSound_43 ?_
      refine r_icmp_ne (tgt := 63) hX dX2_isPairSound_44 (by decide) (fun c15 => ?_) (fun c15 => ?_)
      · refine r_iconst (v := 0) hX dX2_isPairSound_63 (by decide) ?_
        exact r_zret hX hE dX2_isPairSound_64 (mB_n (Or.inl rfl)) (Nat.le_of_ble_eq_true rfl) (Nat.le_of_ble_eq_true rfl) ⟨_, (Or.inl rfl), rfl, rfl⟩
      · refine r_aload_n hX dX2_isPairSound_47 rfl rfl ?_
        refine r_aload_n hX dX2_isPairSound_48 rfl rfl ?_
        refine r_callV hX (c_X1_isSame _ _ q0 _ _ _ _ h0 q1 _ _ _ _ h1) kv_X2_363 q0 h0 rfl rfl rfl (Nat.le_of_ble_eq_true rfl) ⟨(Nat.le_of_ble_eq_true rfl), (Nat.le_of_ble_eq_true rfl)⟩ ⟨(Nat.le_of_ble_eq_true rfl), (Nat.le_of_ble_eq_true rfl)⟩ dX2_isPairSound_49 (fun _ _ z => False.elim z) (fun v9 ws9 h16 => ?_)
        obtain ⟨r18, br18, rfl, hw9⟩ := h16
        subst ws9
        dsimp only [mPush]
        refine r_if_eq (tgt := 59) hX dX2_isPairSound_52 (by decide) (fun c19 => ?_) (fun c19 => ?_)
        · refine r_iconst (v := 1) hX dX2_isPairSound_59 (by decide) ?_
          refine r_goto (tgt := 64) hX dX2_isPairSound_60 (by decide) ?_
          exact r_zret hX hE dX2_isPairSound_64 (mB_n (Or.inr rfl)) (Nat.le_of_ble_eq_true rfl) (Nat.le_of_ble_eq_true rfl) ⟨_, (Or.inr rfl), rfl, rfl⟩
        · refine r_iload_n hX dX2_isPairSound_55 rfl rfl ?_
          refine r_if_ne (tgt := 63) hX dX2_isPairSound_56 (by decide) (fun c20 => ?_) (fun c20 => ?_)
          · refine r_iconst (v := 0) hX dX2_isPairSound_63 (by decide) ?_
            exact r_zret hX hE dX2_isPairSound_64 (mB_n (Or.inl rfl)) (Nat.le_of_ble_eq_true rfl) (Nat.le_of_ble_eq_true rfl) ⟨_, (Or.inl rfl), rfl, rfl⟩
          · refine r_iconst (v := 1) hX dX2_isPairSound_59 (by decide) ?_
            refine r_goto (tgt := 64) hX dX2_isPairSound_60 (by decide) ?_
            exact r_zret hX hE dX2_isPairSound_64 (mB_n (Or.inr rfl)) (Nat.le_of_ble_eq_true rfl) (Nat.le_of_ble_eq_true rfl) ⟨_, (Or.inr rfl), rfl, rfl⟩
  · refine r_aload_n hX dX2_isPairSound_8 rfl rfl ?_
    refine r_aload_n hX dX2_isPairSound_9 rfl rfl ?_
    refine r_callV hX (c_X1_isAhead _ _ q1 _ _ _ _ h1 q0 _ _ _ _ h0) kv_X2_356 q1 h1 rfl rfl rfl (Nat.le_of_ble_eq_true rfl) ⟨(Nat.le_of_ble_eq_true rfl), (Nat.le_of_ble_eq_true rfl)⟩ ⟨(Nat.le_of_ble_eq_true rfl), (Nat.le_of_ble_eq_true rfl)⟩ dX2_isPairSound_10 (fun _ _ z => False.elim z) (fun v9 ws9 h21 => ?_)
    obtain ⟨r23, br23, rfl, hw9⟩ := h21
    subst ws9
    dsimp only [mPush]
    refine r_if_ne (tgt := 20) hX dX2_isPairSound_13 (by decide) (fun c24 => ?_) (fun c24 => ?_)
    · refine r_iconst (v := 0) hX dX2_isPairSound_20 (by decide) ?_
      refine r_istore_n hX dX2_isPairSound_21 rfl (by decide) rfl ?_
      refine r_aload_n hX dX2_isPairSound_22 rfl rfl ?_
      refine r_aload_n hX dX2_isPairSound_23 rfl rfl ?_
      refine r_callV hX (c_X1_orderTo _ _ q0 _ _ _ _ h0 q1 _ _ _ _ h1) kv_X2_179 q0 h0 rfl rfl rfl (Nat.le_of_ble_eq_true rfl) ⟨(Nat.le_of_ble_eq_true rfl), (Nat.le_of_ble_eq_true rfl)⟩ ⟨(Nat.le_of_ble_eq_true rfl), (Nat.le_of_ble_eq_true rfl)⟩ dX2_isPairSound_24 (fun _ _ z => False.elim z) (fun v9 ws9 h25 => ?_)
      obtain ⟨r27, rfl, hw9⟩ := h25
      subst ws9
      dsimp only [mPush]
      refine r_istore_n hX dX2_isPairSound_27 rfl (by decide) rfl ?_
      refine r_aload_n hX dX2_isPairSound_28 rfl rfl ?_
      refine r_aload_n hX dX2_isPairSound_29 rfl rfl ?_
      refine r_callV hX (c_X1_isAlike _ _ q0 _ _ _ _ h0 q1 _ _ _ _ h1) kv_X2_360 q0 h0 rfl rfl rfl (Nat.le_of_ble_eq_true rfl) ⟨(Nat.le_of_ble_eq_true rfl), (Nat.le_of_ble_eq_true rfl)⟩ ⟨(Nat.le_of_ble_eq_true rfl), (Nat.le_of_ble_eq_true rfl)⟩ dX2_isPairSound_30 (fun _ _ z => False.elim z) (fun v9 ws9 h28 => ?_)
      obtain ⟨r30, br30, rfl, hw9⟩ := h28
      subst ws9
      dsimp only [mPush]
      refine r_iload_n hX dX2_isPairSound_33 rfl rfl ?_
      refine r_icmp_ne (tgt := 63) hX dX2_isPairSound_34 (by decide) (fun c31 => ?_) (fun c31 => ?_)
      · refine r_iconst (v := 0) hX dX2_isPairSound_63 (by decide) ?_
        exact r_zret hX hE dX2_isPairSound_64 (mB_n (Or.inl rfl)) (Nat.le_of_ble_eq_true rfl) (Nat.le_of_ble_eq_true rfl) ⟨_, (Or.inl rfl), rfl, rfl⟩
      · refine r_iload_n hX dX2_isPairSound_37 rfl rfl ?_
        refine r_aload_n hX dX2_isPairSound_38 rfl rfl ?_
        refine r_aload_n hX dX2_isPairSound_39 rfl rfl ?_
        refine r_callV hX (c_X1_orderTo _ _ q1 _ _ _ _ h1 q0 _ _ _ _ h0) kv_X2_179 q1 h1 rfl rfl rfl (Nat.le_of_ble_eq_true rfl) ⟨(Nat.le_of_ble_eq_true rfl), (Nat.le_of_ble_eq_true rfl)⟩ ⟨(Nat.le_of_ble_eq_true rfl), (Nat.le_of_ble_eq_true rfl)⟩ dX2_isPairSound_40 (fun _ _ z => False.elim z) (fun v9 ws9 h32 => ?_)
        obtain ⟨r34, rfl, hw9⟩ := h32
        subst ws9
        dsimp only [mPush]
        refine r_ineg hX dX2_isPairSound_43 ?_
        refine r_icmp_ne (tgt := 63) hX dX2_isPairSound_44 (by decide) (fun c35 => ?_) (fun c35 => ?_)
        · refine r_iconst (v := 0) hX dX2_isPairSound_63 (by decide) ?_
          exact r_zret hX hE dX2_isPairSound_64 (mB_n (Or.inl rfl)) (Nat.le_of_ble_eq_true rfl) (Nat.le_of_ble_eq_true rfl) ⟨_, (Or.inl rfl), rfl, rfl⟩
        · refine r_aload_n hX dX2_isPairSound_47 rfl rfl ?_
          refine r_aload_n hX dX2_isPairSound_48 rfl rfl ?_
          refine r_callV hX (c_X1_isSame _ _ q0 _ _ _ _ h0 q1 _ _ _ _ h1) kv_X2_363 q0 h0 rfl rfl rfl (Nat.le_of_ble_eq_true rfl) ⟨(Nat.le_of_ble_eq_true rfl), (Nat.le_of_ble_eq_true rfl)⟩ ⟨(Nat.le_of_ble_eq_true rfl), (Nat.le_of_ble_eq_true rfl)⟩ dX2_isPairSound_49 (fun _ _ z => False.elim z) (fun v9 ws9 h36 => ?_)
          obtain ⟨r38, br38, rfl, hw9⟩ := h36
          subst ws9
          dsimp only [mPush]
          refine r_if_eq (tgt := 59) hX dX2_isPairSound_52 (by decide) (fun c39 => ?_) (fun c39 => ?_)
          · refine r_iconst (v := 1) hX dX2_isPairSound_59 (by decide) ?_
            refine r_goto (tgt := 64) hX dX2_isPairSound_60 (by decide) ?_
            exact r_zret hX hE dX2_isPairSound_64 (mB_n (Or.inr rfl)) (Nat.le_of_ble_eq_true rfl) (Nat.le_of_ble_eq_true rfl) ⟨_, (Or.inr rfl), rfl, rfl⟩
          · refine r_iload_n hX dX2_isPairSound_55 rfl rfl ?_
            refine r_if_ne (tgt := 63) hX dX2_isPairSound_56 (by decide) (fun c40 => ?_) (fun c40 => ?_)
            · refine r_iconst (v := 0) hX dX2_isPairSound_63 (by decide) ?_
              exact r_zret hX hE dX2_isPairSound_64 (mB_n (Or.inl rfl)) (Nat.le_of_ble_eq_true rfl) (Nat.le_of_ble_eq_true rfl) ⟨_, (Or.inl rfl), rfl, rfl⟩
            · refine r_iconst (v := 1) hX dX2_isPairSound_59 (by decide) ?_
              refine r_goto (tgt := 64) hX dX2_isPairSound_60 (by decide) ?_
              exact r_zret hX hE dX2_isPairSound_64 (mB_n (Or.inr rfl)) (Nat.le_of_ble_eq_true rfl) (Nat.le_of_ble_eq_true rfl) ⟨_, (Or.inr rfl), rfl, rfl⟩
    · refine r_iconst (v := 1) hX dX2_isPairSound_16 (by decide) ?_
      refine r_goto (tgt := 21) hX dX2_isPairSound_17 (by decide) ?_
      refine r_istore_n hX dX2_isPairSound_21 rfl (by decide) rfl ?_
      refine r_aload_n hX dX2_isPairSound_22 rfl rfl ?_
      refine r_aload_n hX dX2_isPairSound_23 rfl rfl ?_
      refine r_callV hX (c_X1_orderTo _ _ q0 _ _ _ _ h0 q1 _ _ _ _ h1) kv_X2_179 q0 h0 rfl rfl rfl (Nat.le_of_ble_eq_true rfl) ⟨(Nat.le_of_ble_eq_true rfl), (Nat.le_of_ble_eq_true rfl)⟩ ⟨(Nat.le_of_ble_eq_true rfl), (Nat.le_of_ble_eq_true rfl)⟩ dX2_isPairSound_24 (fun _ _ z => False.elim z) (fun v9 ws9 h41 => ?_)
      obtain ⟨r43, rfl, hw9⟩ := h41
      subst ws9
      dsimp only [mPush]
      refine r_istore_n hX dX2_isPairSound_27 rfl (by decide) rfl ?_
      refine r_aload_n hX dX2_isPairSound_28 rfl rfl ?_
      refine r_aload_n hX dX2_isPairSound_29 rfl rfl ?_
      refine r_callV hX (c_X1_isAlike _ _ q0 _ _ _ _ h0 q1 _ _ _ _ h1) kv_X2_360 q0 h0 rfl rfl rfl (Nat.le_of_ble_eq_true rfl) ⟨(Nat.le_of_ble_eq_true rfl), (Nat.le_of_ble_eq_true rfl)⟩ ⟨(Nat.le_of_ble_eq_true rfl), (Nat.le_of_ble_eq_true rfl)⟩ dX2_isPairSound_30 (fun _ _ z => False.elim z) (fun v9 ws9 h44 => ?_)
      obtain ⟨r46, br46, rfl, hw9⟩ := h44
      subst ws9
      dsimp only [mPush]
      refine r_iload_n hX dX2_isPairSound_33 rfl rfl ?_
      refine r_icmp_ne (tgt := 63) hX dX2_isPairSound_34 (by decide) (fun c47 => ?_) (fun c47 => ?_)
      · refine r_iconst (v := 0) hX dX2_isPairSound_63 (by decide) ?_
        exact r_zret hX hE dX2_isPairSound_64 (mB_n (Or.inl rfl)) (Nat.le_of_ble_eq_true rfl) (Nat.le_of_ble_eq_true rfl) ⟨_, (Or.inl rfl), rfl, rfl⟩
      · refine r_iload_n hX dX2_isPairSound_37 rfl rfl ?_
        refine r_aload_n hX dX2_isPairSound_38 rfl rfl ?_
        refine r_aload_n hX dX2_isPairSound_39 rfl rfl ?_
        refine r_callV hX (c_X1_orderTo _ _ q1 _ _ _ _ h1 q0 _ _ _ _ h0) kv_X2_179 q1 h1 rfl rfl rfl (Nat.le_of_ble_eq_true rfl) ⟨(Nat.le_of_ble_eq_true rfl), (Nat.le_of_ble_eq_true rfl)⟩ ⟨(Nat.le_of_ble_eq_true rfl), (Nat.le_of_ble_eq_true rfl)⟩ dX2_isPairSound_40 (fun _ _ z => False.elim z) (fun v9 ws9 h48 => ?_)
        obtain ⟨r50, rfl, hw9⟩ := h48
        subst ws9
        dsimp only [mPush]
        refine r_ineg hX dX2_isPairSound_43 ?_
        refine r_icmp_ne (tgt := 63) hX dX2_isPairSound_44 (by decide) (fun c51 => ?_) (fun c51 => ?_)
        · refine r_iconst (v := 0) hX dX2_isPairSound_63 (by decide) ?_
          exact r_zret hX hE dX2_isPairSound_64 (mB_n (Or.inl rfl)) (Nat.le_of_ble_eq_true rfl) (Nat.le_of_ble_eq_true rfl) ⟨_, (Or.inl rfl), rfl, rfl⟩
        · refine r_aload_n hX dX2_isPairSound_47 rfl rfl ?_
          refine r_aload_n hX dX2_isPairSound_48 rfl rfl ?_
          refine r_callV hX (c_X1_isSame _ _ q0 _ _ _ _ h0 q1 _ _ _ _ h1) kv_X2_363 q0 h0 rfl rfl rfl (Nat.le_of_ble_eq_true rfl) ⟨(Nat.le_of_ble_eq_true rfl), (Nat.le_of_ble_eq_true rfl)⟩ ⟨(Nat.le_of_ble_eq_true rfl), (Nat.le_of_ble_eq_true rfl)⟩ dX2_isPairSound_49 (fun _ _ z => False.elim z) (fun v9 ws9 h52 => ?_)
          obtain ⟨r54, br54, rfl, hw9⟩ := h52
          subst ws9
          dsimp only [mPush]
          refine r_if_eq (tgt := 59) hX dX2_isPairSound_52 (by decide) (fun c55 => ?_) (fun c55 => ?_)
          · refine r_iconst (v := 1) hX dX2_isPairSound_59 (by decide) ?_
            refine r_goto (tgt := 64) hX dX2_isPairSound_60 (by decide) ?_
            exact r_zret hX hE dX2_isPairSound_64 (mB_n (Or.inr rfl)) (Nat.le_of_ble_eq_true rfl) (Nat.le_of_ble_eq_true rfl) ⟨_, (Or.inr rfl), rfl, rfl⟩
          · refine r_iload_n hX dX2_isPairSound_55 rfl rfl ?_
            refine r_if_ne (tgt := 63) hX dX2_isPairSound_56 (by decide) (fun c56 => ?_) (fun c56 => ?_)
            · refine r_iconst (v := 0) hX dX2_isPairSound_63 (by decide) ?_
              exact r_zret hX hE dX2_isPairSound_64 (mB_n (Or.inl rfl)) (Nat.le_of_ble_eq_true rfl) (Nat.le_of_ble_eq_true rfl) ⟨_, (Or.inl rfl), rfl, rfl⟩
            · refine r_iconst (v := 1) hX dX2_isPairSound_59 (by decide) ?_
              refine r_goto (tgt := 64) hX dX2_isPairSound_60 (by decide) ?_
              exact r_zret hX hE dX2_isPairSound_64 (mB_n (Or.inr rfl)) (Nat.le_of_ble_eq_true rfl) (Nat.le_of_ble_eq_true rfl) ⟨_, (Or.inr rfl), rfl, rfl⟩
