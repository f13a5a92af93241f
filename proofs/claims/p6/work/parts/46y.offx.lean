/-! seconds and orderOffset, exact. (Rows by a program of this repository.) -/
set_option maxHeartbeats 4000000 in
set_option maxRecDepth 20000 in
theorem c_X4_seconds_x (ad ae : Nat → Nat) (cs : ClassId × ClassId × ClassId) (K : mK) (J : mJ) (rest : va_W) (hJ : mWF J) (p0 : Int32) : mCt (mTy cs) yX4_seconds cX4_seconds 2 (some .int) ⟨2, 0, 0, 45⟩ [.ref (ae 0), .int p0] (mRw ad ae cs K J rest) (fun v ws' => ∃ r J', ((∃ j, j < 4 ∧ p0 = nI j ∧ J'.1.1 = 0 ∧ r = J.2.1 j) ∨ (¬ vp_in p0 4 ∧ J'.1.1 = 1)) ∧ J'.2.1 = J.2.1 ∧ mWF J' ∧ v = some (.int r) ∧ ws' = mRw ad ae cs K J' rest) mNo := by
  refine mCt.of (by decide +kernel) (Nat.le_of_ble_eq_true rfl) (fun X hX hE => ?_)
  have hX : mOK X RX4 cX4_seconds 2 ⟨2, 0, 0, 45⟩ [] (mTy cs) := hX
  refine r_aload_n hX dX4_seconds_0 rfl rfl ?_
  refine r_iload_n hX dX4_seconds_1 rfl rfl ?_
  refine r_callS hX (c_X4_isNone _ _ _) ks_X4_61 rfl rfl (Nat.le_of_ble_eq_true rfl) ⟨(Nat.le_of_ble_eq_true rfl), (Nat.le_of_ble_eq_true rfl)⟩ ⟨(Nat.le_of_ble_eq_true rfl), (Nat.le_of_ble_eq_true rfl)⟩ dX4_seconds_2 (fun _ _ z => False.elim z) (fun v9 ws9 h1 => ?_)
  obtain ⟨r3, nr3, rfl, hw9⟩ := h1
  subst ws9
  dsimp only [mPush]
  refine r_iconst (v := 0) hX dX4_seconds_5 (by decide) ?_
  refine r_callV hX (c_X4_isStopped _ _ _ _ _ _ _ _) kv_X4_68 14 rfl rfl rfl rfl (Nat.le_of_ble_eq_true rfl) ⟨(Nat.le_of_ble_eq_true rfl), (Nat.le_of_ble_eq_true rfl)⟩ ⟨(Nat.le_of_ble_eq_true rfl), (Nat.le_of_ble_eq_true rfl)⟩ dX4_seconds_6 (fun _ _ z => False.elim z) (fun v9 ws9 h4 => ?_)
  obtain ⟨r6, J7, nr6, etJ7, erJ7, eJ7, rfl, hw9⟩ := h4
  subst ws9
  dsimp only [mPush]
  refine r_if_eq (tgt := 16) hX dX4_seconds_9 (by decide) (fun c8 => ?_) (fun c8 => ?_)
  · have hs9 := mnone0 nr6 (by first | exact c8 | exact Classical.not_not.mp c8)
    obtain ⟨i10, hhi10, rfl⟩ := mnone0 nr3 hs9.1
    refine r_aload_n hX dX4_seconds_16 rfl rfl ?_
    refine r_get hX kf_X4_7 14 rfl rfl dX4_seconds_17 ?_
    refine r_iload_n hX dX4_seconds_20 rfl rfl ?_
    refine r_iald hX 15 0 rfl rfl (vp_in_nI hhi10 (by decide)) dX4_seconds_21 ?_
    exact r_iret hX hE dX4_seconds_22 (Nat.le_of_ble_eq_true rfl) (Nat.le_of_ble_eq_true rfl) ⟨_, J7, Or.inl ⟨i10, hhi10, rfl, etJ7.trans (by rw [hs9.1]; rfl), by rw [nI_clamp (show i10 < 2 ^ 31 by omega), congrArg Prod.fst eJ7]⟩, ((congrArg Prod.fst eJ7).trans rfl), (mWF2 eJ7 hJ), rfl, rfl⟩
  · refine r_iconst (v := 0) hX dX4_seconds_12 (by decide) ?_
    refine r_goto (tgt := 22) hX dX4_seconds_13 (by decide) ?_
    have hst := off_stop nr3 etJ7 (mnone1 nr6 c8)
    exact r_iret hX hE dX4_seconds_22 (Nat.le_of_ble_eq_true rfl) (Nat.le_of_ble_eq_true rfl) ⟨_, J7, Or.inr (hst.elim id (fun q => absurd rfl q.2.1)), ((congrArg Prod.fst eJ7).trans rfl), (mWF2 eJ7 hJ), rfl, rfl⟩
def f_cmp (x y : Int64) : Int32 := if x < y then -1 else if y < x then 1 else 0
theorem f_cmp_lt {x y : Int64} (h : x < y) : f_cmp x y = -1 := by unfold f_cmp; rw [if_pos h]
theorem f_cmp_gt {x y : Int64} (h1 : ¬ x < y) (h : y < x) : f_cmp x y = 1 := by unfold f_cmp; rw [if_neg h1, if_pos h]
theorem f_cmp_eq {x y : Int64} (h1 : ¬ x < y) (h : ¬ y < x) : f_cmp x y = 0 := by unfold f_cmp; rw [if_neg h1, if_neg h]
theorem sI {a b : Int32} (h : a = b) : some (Value.int a) = some (Value.int b) := by rw [h]
set_option maxHeartbeats 4000000 in
set_option maxRecDepth 20000 in
theorem c_X2_compared_x (tys : List (ClassId × FieldType)) (ws : va_W) (p0 : Int64) (p1 : Int64) : mCt tys yX2_compared cX2_compared 4 (some .int) ⟨0, 0, 0, 0⟩ [.long p0, .long p1] ws (fun v ws' => v = some (.int (f_cmp p0 p1)) ∧ ws' = ws) mNo := by
  refine mCt.of (by decide +kernel) (Nat.le_of_ble_eq_true rfl) (fun X hX hE => ?_)
  have hX : mOK X RX2 cX2_compared 4 ⟨0, 0, 0, 0⟩ [] tys := hX
  refine r_lload_n hX dX2_compared_0 rfl rfl ?_
  refine r_lload_n hX dX2_compared_1 rfl rfl ?_
  refine r_lcmp hX dX2_compared_2 ?_
  refine r_if_ge (tgt := 10) hX dX2_compared_3 (by decide) (fun c1 => ?_) (fun c1 => ?_)
  · refine r_lload_n hX dX2_compared_10 rfl rfl ?_
    refine r_lload_n hX dX2_compared_11 rfl rfl ?_
    refine r_lcmp hX dX2_compared_12 ?_
    refine r_if_le (tgt := 20) hX dX2_compared_13 (by decide) (fun c2 => ?_) (fun c2 => ?_)
    · refine r_iconst (v := 0) hX dX2_compared_20 (by decide) ?_
      exact r_iret hX hE dX2_compared_21 (Nat.le_of_ble_eq_true rfl) (Nat.le_of_ble_eq_true rfl) ⟨sI (f_cmp_eq (fun h => absurd (lg_lt.mpr h) (Int32.not_lt.mpr c1)) (fun h => absurd (lg_gt.mpr h) (Int32.not_lt.mpr c2))).symm, rfl⟩
    · refine r_iconst (v := 1) hX dX2_compared_16 (by decide) ?_
      refine r_goto (tgt := 21) hX dX2_compared_17 (by decide) ?_
      exact r_iret hX hE dX2_compared_21 (Nat.le_of_ble_eq_true rfl) (Nat.le_of_ble_eq_true rfl) ⟨sI (f_cmp_gt (fun h => absurd (lg_lt.mpr h) (Int32.not_lt.mpr c1)) (lg_gt.mp (Int32.not_le.mp c2))).symm, rfl⟩
  · refine r_iconst (v := -1) hX dX2_compared_6 (by decide) ?_
    refine r_goto (tgt := 21) hX dX2_compared_7 (by decide) ?_
    exact r_iret hX hE dX2_compared_21 (Nat.le_of_ble_eq_true rfl) (Nat.le_of_ble_eq_true rfl) ⟨sI (f_cmp_lt (lg_lt.mp (Int32.not_le.mp c1))).symm, rfl⟩
set_option maxHeartbeats 4000000 in
set_option maxRecDepth 20000 in
theorem c_X4_one_x (tys : List (ClassId × FieldType)) (ws : va_W) (p0 : Int32) : mCt tys yX4_one cX4_one 1 (some .int) ⟨0, 0, 0, 0⟩ [.int p0] ws (fun v ws' => v = some (.int (if p0 = 0 then 0 else 1)) ∧ ws' = ws) mNo := by
  refine mCt.of (by decide +kernel) (Nat.le_of_ble_eq_true rfl) (fun X hX hE => ?_)
  have hX : mOK X RX4 cX4_one 1 ⟨0, 0, 0, 0⟩ [] tys := hX
  refine r_iload_n hX dX4_one_0 rfl rfl ?_
  refine r_if_eq (tgt := 8) hX dX4_one_1 (by decide) (fun c1 => ?_) (fun c1 => ?_)
  · refine r_iconst (v := 0) hX dX4_one_8 (by decide) ?_
    exact r_iret hX hE dX4_one_9 (Nat.le_of_ble_eq_true rfl) (Nat.le_of_ble_eq_true rfl) ⟨by rw [if_pos c1], rfl⟩
  · refine r_iconst (v := 1) hX dX4_one_4 (by decide) ?_
    refine r_goto (tgt := 9) hX dX4_one_5 (by decide) ?_
    exact r_iret hX hE dX4_one_9 (Nat.le_of_ble_eq_true rfl) (Nat.le_of_ble_eq_true rfl) ⟨by rw [if_neg c1], rfl⟩
set_option maxHeartbeats 4000000 in
set_option maxRecDepth 20000 in
theorem c_X4_order_x (tys : List (ClassId × FieldType)) (ws : va_W) (p0 : Int64) (p1 : Int64) : mCt tys yX4_order cX4_order 4 (some .int) ⟨1, 0, 0, 20⟩ [.long p0, .long p1] ws (fun v ws' => v = some (.int (f_cmp p0 p1)) ∧ ws' = ws) mNo := by
  refine mCt.of (by decide +kernel) (Nat.le_of_ble_eq_true rfl) (fun X hX hE => ?_)
  have hX : mOK X RX4 cX4_order 4 ⟨1, 0, 0, 20⟩ [] tys := hX
  refine r_lload_n hX dX4_order_0 rfl rfl ?_
  refine r_lload_n hX dX4_order_1 rfl rfl ?_
  refine r_lcmp hX dX4_order_2 ?_
  refine r_if_ge (tgt := 10) hX dX4_order_3 (by decide) (fun c1 => ?_) (fun c1 => ?_)
  · refine r_lload_n hX dX4_order_10 rfl rfl ?_
    refine r_lload_n hX dX4_order_11 rfl rfl ?_
    refine r_lcmp hX dX4_order_12 ?_
    refine r_if_le (tgt := 20) hX dX4_order_13 (by decide) (fun c2 => ?_) (fun c2 => ?_)
    · refine r_iconst (v := 0) hX dX4_order_20 (by decide) ?_
      refine r_callS hX (c_X4_one_x _ _ _) ks_X4_84 rfl rfl (Nat.le_of_ble_eq_true rfl) ⟨(Nat.le_of_ble_eq_true rfl), (Nat.le_of_ble_eq_true rfl)⟩ ⟨(Nat.le_of_ble_eq_true rfl), (Nat.le_of_ble_eq_true rfl)⟩ dX4_order_21 (fun _ _ z => False.elim z) (fun v9 ws9 h3 => ?_)
      obtain ⟨rfl, hw9⟩ := h3
      subst ws9
      dsimp only [mPush]
      exact r_iret hX hE dX4_order_24 (Nat.le_of_ble_eq_true rfl) (Nat.le_of_ble_eq_true rfl) ⟨sI (f_cmp_eq (fun h => absurd (lg_lt.mpr h) (Int32.not_lt.mpr c1)) (fun h => absurd (lg_gt.mpr h) (Int32.not_lt.mpr c2))).symm, rfl⟩
    · refine r_iconst (v := 1) hX dX4_order_16 (by decide) ?_
      refine r_goto (tgt := 21) hX dX4_order_17 (by decide) ?_
      refine r_callS hX (c_X4_one_x _ _ _) ks_X4_84 rfl rfl (Nat.le_of_ble_eq_true rfl) ⟨(Nat.le_of_ble_eq_true rfl), (Nat.le_of_ble_eq_true rfl)⟩ ⟨(Nat.le_of_ble_eq_true rfl), (Nat.le_of_ble_eq_true rfl)⟩ dX4_order_21 (fun _ _ z => False.elim z) (fun v9 ws9 h6 => ?_)
      obtain ⟨rfl, hw9⟩ := h6
      subst ws9
      dsimp only [mPush]
      exact r_iret hX hE dX4_order_24 (Nat.le_of_ble_eq_true rfl) (Nat.le_of_ble_eq_true rfl) ⟨sI (f_cmp_gt (fun h => absurd (lg_lt.mpr h) (Int32.not_lt.mpr c1)) (lg_gt.mp (Int32.not_le.mp c2))).symm, rfl⟩
  · refine r_iconst (v := -1) hX dX4_order_6 (by decide) ?_
    refine r_goto (tgt := 24) hX dX4_order_7 (by decide) ?_
    exact r_iret hX hE dX4_order_24 (Nat.le_of_ble_eq_true rfl) (Nat.le_of_ble_eq_true rfl) ⟨sI (f_cmp_lt (lg_lt.mp (Int32.not_le.mp c1))).symm, rfl⟩
set_option maxHeartbeats 4000000 in
set_option maxRecDepth 20000 in
theorem c_X2_orderOffset_x (ad : Nat → Nat) (cs : ClassId × ClassId × ClassId) (K : mK) (rest : va_W) (p0 : Int32) (p1 : Int32) : mCt (mTy cs) yX2_orderOffset cX2_orderOffset 3 (some .int) ⟨8, 2, 12, 124⟩ [.ref (ad 0), .int p0, .int p1] (mWd ad cs K rest) (fun v ws' => ∃ i j, i < 4 ∧ p0 = nI i ∧ j < 4 ∧ p1 = nI j ∧ v = some (.int (f_cmp (K.1 j).toInt64 (K.1 i).toInt64)) ∧ ws' = mWd ad cs K rest) (fun E ws' => E = xI ∧ ws' = mWd ad cs K rest ∧ ¬ (vp_in p0 4 ∧ vp_in p1 4)) := by
  refine mCt.of (by decide +kernel) (Nat.le_of_ble_eq_true rfl) (fun X hX hE => ?_)
  have hX : mOK X RX2 cX2_orderOffset 3 ⟨8, 2, 12, 124⟩ [] (mTy cs) := hX
  refine r_aload_n hX dX2_orderOffset_0 rfl rfl ?_
  refine r_iload_n hX dX2_orderOffset_1 rfl rfl ?_
  refine r_callV hX (c_X2_seconds _ _ _ _ _) kv_X2_64 0 rfl rfl rfl rfl (Nat.le_of_ble_eq_true rfl) ⟨(Nat.le_of_ble_eq_true rfl), (Nat.le_of_ble_eq_true rfl)⟩ ⟨(Nat.le_of_ble_eq_true rfl), (Nat.le_of_ble_eq_true rfl)⟩ dX2_orderOffset_2 (fun E ws9 z => r_out hX hE (Nat.le_of_ble_eq_true rfl) (Nat.le_of_ble_eq_true rfl) (⟨z.1, z.2.1, fun q => z.2.2 q.2⟩)) (fun v9 ws9 h1 => ?_)
  obtain ⟨i3, hhi3, rfl, rfl, hw9⟩ := h1
  subst ws9
  dsimp only [mPush]
  refine r_i2l hX dX2_orderOffset_5 ?_
  refine r_aload_n hX dX2_orderOffset_6 rfl rfl ?_
  refine r_iload_n hX dX2_orderOffset_7 rfl rfl ?_
  refine r_callV hX (c_X2_seconds _ _ _ _ _) kv_X2_64 0 rfl rfl rfl rfl (Nat.le_of_ble_eq_true rfl) ⟨(Nat.le_of_ble_eq_true rfl), (Nat.le_of_ble_eq_true rfl)⟩ ⟨(Nat.le_of_ble_eq_true rfl), (Nat.le_of_ble_eq_true rfl)⟩ dX2_orderOffset_8 (fun E ws9 z => r_out hX hE (Nat.le_of_ble_eq_true rfl) (Nat.le_of_ble_eq_true rfl) (⟨z.1, z.2.1, fun q => z.2.2 q.1⟩)) (fun v9 ws9 h4 => ?_)
  obtain ⟨i6, hhi6, rfl, rfl, hw9⟩ := h4
  subst ws9
  dsimp only [mPush]
  refine r_i2l hX dX2_orderOffset_11 ?_
  refine r_callS hX (c_X2_compared_x _ _ _ _) ks_X2_68 rfl rfl (Nat.le_of_ble_eq_true rfl) ⟨(Nat.le_of_ble_eq_true rfl), (Nat.le_of_ble_eq_true rfl)⟩ ⟨(Nat.le_of_ble_eq_true rfl), (Nat.le_of_ble_eq_true rfl)⟩ dX2_orderOffset_12 (fun _ _ z => False.elim z) (fun v9 ws9 h7 => ?_)
  obtain ⟨rfl, hw9⟩ := h7
  subst ws9
  dsimp only [mPush]
  exact r_iret hX hE dX2_orderOffset_15 (Nat.le_of_ble_eq_true rfl) (Nat.le_of_ble_eq_true rfl) ⟨i6, i3, hhi6, rfl, hhi3, rfl, rfl, rfl⟩
set_option maxHeartbeats 4000000 in
set_option maxRecDepth 20000 in
theorem c_X4_orderOffset_x (ad ae : Nat → Nat) (cs : ClassId × ClassId × ClassId) (K : mK) (J : mJ) (rest : va_W) (hJ : mWF J) (p0 : Int32) (p1 : Int32) : mCt (mTy cs) yX4_orderOffset cX4_orderOffset 3 (some .int) ⟨2, 0, 0, 45⟩ [.ref (ae 0), .int p0, .int p1] (mRw ad ae cs K J rest) (fun v ws' => ∃ r J', ((∃ i j, i < 4 ∧ p0 = nI i ∧ j < 4 ∧ p1 = nI j ∧ J'.1.1 = 0 ∧ r = f_cmp (J.2.1 j).toInt64 (J.2.1 i).toInt64) ∨ (¬ (vp_in p0 4 ∧ vp_in p1 4) ∧ J'.1.1 = 1)) ∧ J'.2.1 = J.2.1 ∧ mWF J' ∧ v = some (.int r) ∧ ws' = mRw ad ae cs K J' rest) mNo := by
  refine mCt.of (by decide +kernel) (Nat.le_of_ble_eq_true rfl) (fun X hX hE => ?_)
  have hX : mOK X RX4 cX4_orderOffset 3 ⟨2, 0, 0, 45⟩ [] (mTy cs) := hX
  refine r_aload_n hX dX4_orderOffset_0 rfl rfl ?_
  refine r_iload_n hX dX4_orderOffset_1 rfl rfl ?_
  refine r_callS hX (c_X4_isNone _ _ _) ks_X4_61 rfl rfl (Nat.le_of_ble_eq_true rfl) ⟨(Nat.le_of_ble_eq_true rfl), (Nat.le_of_ble_eq_true rfl)⟩ ⟨(Nat.le_of_ble_eq_true rfl), (Nat.le_of_ble_eq_true rfl)⟩ dX4_orderOffset_2 (fun _ _ z => False.elim z) (fun v9 ws9 h1 => ?_)
  obtain ⟨r3, nr3, rfl, hw9⟩ := h1
  subst ws9
  dsimp only [mPush]
  refine r_if_ne (tgt := 15) hX dX4_orderOffset_5 (by decide) (fun c4 => ?_) (fun c4 => ?_)
  · refine r_iconst (v := 1) hX dX4_orderOffset_15 (by decide) ?_
    refine r_goto (tgt := 20) hX dX4_orderOffset_16 (by decide) ?_
    refine r_iconst (v := 0) hX dX4_orderOffset_20 (by decide) ?_
    refine r_callV hX (c_X4_isStopped _ _ _ _ _ _ _ _) kv_X4_68 14 rfl rfl rfl rfl (Nat.le_of_ble_eq_true rfl) ⟨(Nat.le_of_ble_eq_true rfl), (Nat.le_of_ble_eq_true rfl)⟩ ⟨(Nat.le_of_ble_eq_true rfl), (Nat.le_of_ble_eq_true rfl)⟩ dX4_orderOffset_21 (fun _ _ z => False.elim z) (fun v9 ws9 h5 => ?_)
    obtain ⟨r7, J8, nr7, etJ8, erJ8, eJ8, rfl, hw9⟩ := h5
    subst ws9
    dsimp only [mPush]
    refine r_if_eq (tgt := 31) hX dX4_orderOffset_24 (by decide) (fun c9 => ?_) (fun c9 => ?_)
    · have hs10 := mnone0 nr7 (by first | exact c9 | exact Classical.not_not.mp c9)
      exact absurd hs10.1 (by decide)
    · refine r_iconst (v := 0) hX dX4_orderOffset_27 (by decide) ?_
      refine r_goto (tgt := 48) hX dX4_orderOffset_28 (by decide) ?_
      exact r_iret hX hE dX4_orderOffset_48 (Nat.le_of_ble_eq_true rfl) (Nat.le_of_ble_eq_true rfl) ⟨_, J8, Or.inr ⟨fun z => mnone1 nr3 c4 z.1, etJ8.trans rfl⟩, ((congrArg Prod.fst eJ8).trans rfl), (mWF2 eJ8 hJ), rfl, rfl⟩
  · obtain ⟨i11, hhi11, rfl⟩ := mnone0 nr3 (by first | exact c4 | exact Classical.not_not.mp c4)
    refine r_iload_n hX dX4_orderOffset_8 rfl rfl ?_
    refine r_callS hX (c_X4_isNone _ _ _) ks_X4_61 rfl rfl (Nat.le_of_ble_eq_true rfl) ⟨(Nat.le_of_ble_eq_true rfl), (Nat.le_of_ble_eq_true rfl)⟩ ⟨(Nat.le_of_ble_eq_true rfl), (Nat.le_of_ble_eq_true rfl)⟩ dX4_orderOffset_9 (fun _ _ z => False.elim z) (fun v9 ws9 h12 => ?_)
    obtain ⟨r14, nr14, rfl, hw9⟩ := h12
    subst ws9
    dsimp only [mPush]
    refine r_if_eq (tgt := 19) hX dX4_orderOffset_12 (by decide) (fun c15 => ?_) (fun c15 => ?_)
    · obtain ⟨i16, hhi16, rfl⟩ := mnone0 nr14 (by first | exact c15 | exact Classical.not_not.mp c15)
      refine r_iconst (v := 0) hX dX4_orderOffset_19 (by decide) ?_
      refine r_iconst (v := 0) hX dX4_orderOffset_20 (by decide) ?_
      refine r_callV hX (c_X4_isStopped _ _ _ _ _ _ _ _) kv_X4_68 14 rfl rfl rfl rfl (Nat.le_of_ble_eq_true rfl) ⟨(Nat.le_of_ble_eq_true rfl), (Nat.le_of_ble_eq_true rfl)⟩ ⟨(Nat.le_of_ble_eq_true rfl), (Nat.le_of_ble_eq_true rfl)⟩ dX4_orderOffset_21 (fun _ _ z => False.elim z) (fun v9 ws9 h17 => ?_)
      obtain ⟨r19, J20, nr19, etJ20, erJ20, eJ20, rfl, hw9⟩ := h17
      subst ws9
      dsimp only [mPush]
      refine r_if_eq (tgt := 31) hX dX4_orderOffset_24 (by decide) (fun c21 => ?_) (fun c21 => ?_)
      · have hs22 := mnone0 nr19 (by first | exact c21 | exact Classical.not_not.mp c21)
        refine r_aload_n hX dX4_orderOffset_31 rfl rfl ?_
        refine r_get hX kf_X4_7 14 rfl rfl dX4_orderOffset_32 ?_
        refine r_iload_n hX dX4_orderOffset_35 rfl rfl ?_
        refine r_iald hX 15 0 rfl rfl (vp_in_nI hhi16 (by decide)) dX4_orderOffset_36 ?_
        refine r_i2l hX dX4_orderOffset_37 ?_
        refine r_aload_n hX dX4_orderOffset_38 rfl rfl ?_
        refine r_get hX kf_X4_7 14 rfl rfl dX4_orderOffset_39 ?_
        refine r_iload_n hX dX4_orderOffset_42 rfl rfl ?_
        refine r_iald hX 15 0 rfl rfl (vp_in_nI hhi11 (by decide)) dX4_orderOffset_43 ?_
        refine r_i2l hX dX4_orderOffset_44 ?_
        refine r_callS hX (c_X4_order_x _ _ _ _) ks_X4_88 rfl rfl (Nat.le_of_ble_eq_true rfl) ⟨(Nat.le_of_ble_eq_true rfl), (Nat.le_of_ble_eq_true rfl)⟩ ⟨(Nat.le_of_ble_eq_true rfl), (Nat.le_of_ble_eq_true rfl)⟩ dX4_orderOffset_45 (fun _ _ z => False.elim z) (fun v9 ws9 h23 => ?_)
        obtain ⟨rfl, hw9⟩ := h23
        subst ws9
        dsimp only [mPush]
        exact r_iret hX hE dX4_orderOffset_48 (Nat.le_of_ble_eq_true rfl) (Nat.le_of_ble_eq_true rfl) ⟨_, J20, Or.inl ⟨i11, i16, hhi11, rfl, hhi16, rfl, etJ20.trans rfl, by rw [nI_clamp (show i11 < 2 ^ 31 by omega), nI_clamp (show i16 < 2 ^ 31 by omega), congrArg Prod.fst eJ20]⟩, ((congrArg Prod.fst eJ20).trans rfl), (mWF2 eJ20 hJ), rfl, rfl⟩
      · refine r_iconst (v := 0) hX dX4_orderOffset_27 (by decide) ?_
        refine r_goto (tgt := 48) hX dX4_orderOffset_28 (by decide) ?_
        exact r_iret hX hE dX4_orderOffset_48 (Nat.le_of_ble_eq_true rfl) (Nat.le_of_ble_eq_true rfl) ⟨_, J20, absurd ⟨rfl, rfl⟩ (mnone1 nr19 c21), ((congrArg Prod.fst eJ20).trans rfl), (mWF2 eJ20 hJ), rfl, rfl⟩
    · refine r_iconst (v := 1) hX dX4_orderOffset_15 (by decide) ?_
      refine r_goto (tgt := 20) hX dX4_orderOffset_16 (by decide) ?_
      refine r_iconst (v := 0) hX dX4_orderOffset_20 (by decide) ?_
      refine r_callV hX (c_X4_isStopped _ _ _ _ _ _ _ _) kv_X4_68 14 rfl rfl rfl rfl (Nat.le_of_ble_eq_true rfl) ⟨(Nat.le_of_ble_eq_true rfl), (Nat.le_of_ble_eq_true rfl)⟩ ⟨(Nat.le_of_ble_eq_true rfl), (Nat.le_of_ble_eq_true rfl)⟩ dX4_orderOffset_21 (fun _ _ z => False.elim z) (fun v9 ws9 h26 => ?_)
      obtain ⟨r28, J29, nr28, etJ29, erJ29, eJ29, rfl, hw9⟩ := h26
      subst ws9
      dsimp only [mPush]
      refine r_if_eq (tgt := 31) hX dX4_orderOffset_24 (by decide) (fun c30 => ?_) (fun c30 => ?_)
      · have hs31 := mnone0 nr28 (by first | exact c30 | exact Classical.not_not.mp c30)
        exact absurd hs31.1 (by decide)
      · refine r_iconst (v := 0) hX dX4_orderOffset_27 (by decide) ?_
        refine r_goto (tgt := 48) hX dX4_orderOffset_28 (by decide) ?_
        exact r_iret hX hE dX4_orderOffset_48 (Nat.le_of_ble_eq_true rfl) (Nat.le_of_ble_eq_true rfl) ⟨_, J29, Or.inr ⟨fun z => mnone1 nr14 c15 z.2, etJ29.trans rfl⟩, ((congrArg Prod.fst eJ29).trans rfl), (mWF2 eJ29 hJ), rfl, rfl⟩
set_option maxHeartbeats 1000000 in
theorem c_L_orderOffset_x (ad ae : Nat → Nat) (cs : ClassId × ClassId × ClassId) (K : mK) (J : mJ) (rest : va_W) (ao : Nat) (n0 : Int64) (s0 : Value) (p0 : Int32) (p1 : Int32) : mCw (mTy cs) yL_orderOffset cL_orderOffset 5 (some .int) [(0, 11, 14, 19)] ⟨9, 2, 12, 146⟩ [.ref (ad 0), .int p0, .int p1, .ref ao] (mRw ad ae cs K J ((ao, .inr (4, [.long n0, s0])) :: rest)) (fun v ws' => (∃ i j, i < 4 ∧ p0 = nI i ∧ j < 4 ∧ p1 = nI j ∧ v = some (.int 0) ∧ ws' = (mRw ad ae cs K J ((ao, .inr (4, [.long (f_cmp (K.1 j).toInt64 (K.1 i).toInt64).toInt64, s0])) :: rest))) ∨ (v = some (.int 1) ∧ ¬ (vp_in p0 4 ∧ vp_in p1 4) ∧ ws' = (mRw ad ae cs K J ((ao, .inr (4, [.long n0, s0])) :: rest)))) := by
  refine mCw.of (by decide +kernel) (Nat.le_of_ble_eq_true rfl) (fun X hX hg hE => ?_)
  replace hX : mOK X RL cL_orderOffset 5 ⟨9, 2, 12, 146⟩ [(0, 11, 14, 19)] (mTy cs) := hX
  refine r_aload_n hX dL_orderOffset_0 rfl rfl ?_
  refine r_aload_n hX dL_orderOffset_1 rfl rfl ?_
  refine r_iload_n hX dL_orderOffset_2 rfl rfl ?_
  refine r_iload_n hX dL_orderOffset_3 rfl rfl ?_
  have kx : ∀ (E : String) (ws9 : va_W), (E = xI ∧ ws9 = (mRw ad ae cs K J ((ao, .inr (4, [.long n0, s0])) :: rest)) ∧ ¬ (vp_in p0 4 ∧ vp_in p1 4)) → mT X 4 [(0, some (.ref (ad 0))), (1, some (.int p0)), (2, some (.int p1)), (3, some (.ref ao))] [.ref ao] ws9 (0 + 2) (0 + 12) E := by
    intro E ws9 z
    obtain ⟨rfl, zw, zn⟩ := z
    subst zw
    refine r_catch1 hX rfl (by decide) kl_L_19 kca_I (fun q => ?_)
    refine r_astore hX dL_orderOffset_14 (by decide) rfl ?_
    refine r_iconst (v := 1) hX dL_orderOffset_16 (by decide) ?_
    exact r_iret hX hE dL_orderOffset_17 (Nat.le_of_ble_eq_true rfl) (Nat.le_of_ble_eq_true rfl) (Or.inr ⟨rfl, zn, rfl⟩)
  refine r_callV hX (c_X2_orderOffset_x ad cs K _ _ _) kv_L_31 0 rfl rfl rfl rfl (Nat.le_of_ble_eq_true rfl) ⟨(Nat.le_of_ble_eq_true rfl), (Nat.le_of_ble_eq_true rfl)⟩ ⟨(Nat.le_of_ble_eq_true rfl), (Nat.le_of_ble_eq_true rfl)⟩ dL_orderOffset_4 kx (fun v9 ws9 h9 => ?_)
  obtain ⟨i, j, hi, rfl, hj, rfl, rfl, hw9⟩ := h9
  subst ws9
  dsimp only [mPush]
  refine r_i2l hX dL_orderOffset_7 ?_
  refine r_putN hX kg_L_13 21 rfl rfl rfl rfl (Nat.le_of_ble_eq_true rfl) dL_orderOffset_8 ?_
  refine r_goto (tgt := 18) hX dL_orderOffset_11 (by decide) ?_
  refine r_iconst (v := 0) hX dL_orderOffset_18 (by decide) ?_
  exact r_iret hX hE dL_orderOffset_19 (Nat.le_of_ble_eq_true rfl) (Nat.le_of_ble_eq_true rfl) (Or.inl ⟨i, j, hi, rfl, hj, rfl, rfl, rfl⟩)
