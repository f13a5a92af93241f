/-! The class, its contracts (rows by a program of this repository). -/
theorem dX2_refused_0 : decode cX2_refused 0 = .ok (.aload_n 0, 1) := by decide +kernel
theorem dX2_refused_1 : decode cX2_refused 1 = .ok (.dup, 1) := by decide +kernel
theorem dX2_refused_2 : decode cX2_refused 2 = .ok (.getfield 199, 3) := by decide +kernel
theorem dX2_refused_5 : decode cX2_refused 5 = .ok (.iconst 1, 1) := by decide +kernel
theorem dX2_refused_6 : decode cX2_refused 6 = .ok (.iadd, 1) := by decide +kernel
theorem dX2_refused_7 : decode cX2_refused 7 = .ok (.putfield 199, 3) := by decide +kernel
theorem dX2_refused_10 : decode cX2_refused 10 = .ok (.bipush (-9), 2) := by decide +kernel
theorem dX2_refused_12 : decode cX2_refused 12 = .ok (.ireturn, 1) := by decide +kernel
set_option maxHeartbeats 4000000 in
set_option maxRecDepth 20000 in
theorem c_X2_refused (ad : Nat → Nat) (cs : ClassId × ClassId × ClassId) (K : mK) (rest : va_W) : mCt (mTy cs) yX2_refused cX2_refused 1 (some .int) ⟨0, 0, 0, 0⟩ [.ref (ad 0)] (mWd ad cs K rest) (mWi ad cs K rest) mNo := by
  refine mCt.of (by decide +kernel) (Nat.le_of_ble_eq_true rfl) (fun X hX hE => ?_)
  have hX : mOK X RX2 cX2_refused 1 ⟨0, 0, 0, 0⟩ [] (mTy cs) := hX
  refine r_aload_n hX dX2_refused_0 rfl rfl ?_
  refine r_dup hX dX2_refused_1 rfl ?_
  refine r_get hX kf_X2_199 0 rfl rfl dX2_refused_2 ?_
  refine r_iconst (v := 1) hX dX2_refused_5 (by decide) ?_
  refine r_iadd hX dX2_refused_6 ?_
  refine r_put hX kf_X2_199 0 rfl rfl rfl rfl (Nat.le_of_ble_eq_true rfl) dX2_refused_7 ?_
  refine r_bipush (v := -9) hX dX2_refused_10 (by decide) ?_
  exact r_iret hX hE dX2_refused_12 (Nat.le_of_ble_eq_true rfl) (Nat.le_of_ble_eq_true rfl) ⟨_, (K.1, K.2.1, K.2.2.1, K.2.2.2.1, K.2.2.2.2 + 1), rfl, rfl, rfl⟩
theorem dX2_putNumber_0 : decode cX2_putNumber 0 = .ok (.iload_n 1, 1) := by decide +kernel
theorem dX2_putNumber_1 : decode cX2_putNumber 1 = .ok (.aload_n 0, 1) := by decide +kernel
theorem dX2_putNumber_2 : decode cX2_putNumber 2 = .ok (.getfield 13, 3) := by decide +kernel
theorem dX2_putNumber_5 : decode cX2_putNumber 5 = .ok (.arraylength, 1) := by decide +kernel
theorem dX2_putNumber_6 : decode cX2_putNumber 6 = .ok (.invokestatic 34, 3) := by decide +kernel
theorem dX2_putNumber_9 : decode cX2_putNumber 9 = .ok (.lload_n 2, 1) := by decide +kernel
theorem dX2_putNumber_10 : decode cX2_putNumber 10 = .ok (.ldc2_w 262, 3) := by decide +kernel
theorem dX2_putNumber_13 : decode cX2_putNumber 13 = .ok (.ldc2_w 264, 3) := by decide +kernel
theorem dX2_putNumber_16 : decode cX2_putNumber 16 = .ok (.invokestatic 48, 3) := by decide +kernel
theorem dX2_putNumber_19 : decode cX2_putNumber 19 = .ok (.ifCond .ne 8, 3) := by decide +kernel
theorem dX2_putNumber_22 : decode cX2_putNumber 22 = .ok (.aload_n 0, 1) := by decide +kernel
theorem dX2_putNumber_23 : decode cX2_putNumber 23 = .ok (.invokevirtual 56, 3) := by decide +kernel
theorem dX2_putNumber_26 : decode cX2_putNumber 26 = .ok (.ireturn, 1) := by decide +kernel
theorem dX2_putNumber_27 : decode cX2_putNumber 27 = .ok (.aload_n 0, 1) := by decide +kernel
theorem dX2_putNumber_28 : decode cX2_putNumber 28 = .ok (.getfield 13, 3) := by decide +kernel
theorem dX2_putNumber_31 : decode cX2_putNumber 31 = .ok (.iload_n 1, 1) := by decide +kernel
theorem dX2_putNumber_32 : decode cX2_putNumber 32 = .ok (.lload_n 2, 1) := by decide +kernel
theorem dX2_putNumber_33 : decode cX2_putNumber 33 = .ok (.lastore, 1) := by decide +kernel
theorem dX2_putNumber_34 : decode cX2_putNumber 34 = .ok (.lload_n 2, 1) := by decide +kernel
theorem dX2_putNumber_35 : decode cX2_putNumber 35 = .ok (.invokestatic 92, 3) := by decide +kernel
theorem dX2_putNumber_38 : decode cX2_putNumber 38 = .ok (.ireturn, 1) := by decide +kernel
set_option maxHeartbeats 4000000 in
set_option maxRecDepth 20000 in
theorem c_X2_putNumber (ad : Nat → Nat) (cs : ClassId × ClassId × ClassId) (K : mK) (rest : va_W) (j0 : Nat) (hj0 : j0 < 4) (p1 : Int64) : mCt (mTy cs) yX2_putNumber cX2_putNumber 4 (some .int) ⟨2, 0, 0, 46⟩ [.ref (ad 0), .int (nI j0), .long p1] (mWd ad cs K rest) (mWi ad cs K rest) mNo := by
  refine mCt.of (by decide +kernel) (Nat.le_of_ble_eq_true rfl) (fun X hX hE => ?_)
  have hX : mOK X RX2 cX2_putNumber 4 ⟨2, 0, 0, 46⟩ [] (mTy cs) := hX
  refine r_iload_n hX dX2_putNumber_0 rfl rfl ?_
  refine r_aload_n hX dX2_putNumber_1 rfl rfl ?_
  refine r_get hX kf_X2_13 0 rfl rfl dX2_putNumber_2 ?_
  refine r_alen (v := nI 4) hX 2 1 rfl rfl rfl dX2_putNumber_5 ?_
  refine r_callS hX (c_X2_requireOne_ok _ _ 4 (by decide) j0 hj0) ks_X2_34 rfl rfl (Nat.le_of_ble_eq_true rfl) ⟨(Nat.le_of_ble_eq_true rfl), (Nat.le_of_ble_eq_true rfl)⟩ ⟨(Nat.le_of_ble_eq_true rfl), (Nat.le_of_ble_eq_true rfl)⟩ dX2_putNumber_6 (fun _ _ z => False.elim z) (fun v9 ws9 h1 => ?_)
  obtain ⟨rfl, hw9⟩ := h1
  subst ws9
  dsimp only [mPush]
  refine r_lload_n hX dX2_putNumber_9 rfl rfl ?_
  refine r_ldc2 hX kc_X2_262 dX2_putNumber_10 ?_
  refine r_ldc2 hX kc_X2_264 dX2_putNumber_13 ?_
  refine r_callS hX (c_X2_isWithin _ _ _ _ _) ks_X2_48 rfl rfl (Nat.le_of_ble_eq_true rfl) ⟨(Nat.le_of_ble_eq_true rfl), (Nat.le_of_ble_eq_true rfl)⟩ ⟨(Nat.le_of_ble_eq_true rfl), (Nat.le_of_ble_eq_true rfl)⟩ dX2_putNumber_16 (fun _ _ z => False.elim z) (fun v9 ws9 h3 => ?_)
  obtain ⟨rfl, hw9⟩ := h3
  subst ws9
  dsimp only [mPush]
  refine r_if_ne (tgt := 27) hX dX2_putNumber_19 (by decide) (fun c5 => ?_) (fun c5 => ?_)
  · refine r_aload_n hX dX2_putNumber_27 rfl rfl ?_
    refine r_get hX kf_X2_13 0 rfl rfl dX2_putNumber_28 ?_
    refine r_iload_n hX dX2_putNumber_31 rfl rfl ?_
    refine r_lload_n hX dX2_putNumber_32 rfl rfl ?_
    refine r_last hX 2 1 rfl rfl (vp_in_nI hj0 (by decide)) dX2_putNumber_33 ?_
    refine r_lload_n hX dX2_putNumber_34 rfl rfl ?_
    refine r_callS hX (c_X2_nanoOf _ _ _) ks_X2_92 rfl rfl (Nat.le_of_ble_eq_true rfl) ⟨(Nat.le_of_ble_eq_true rfl), (Nat.le_of_ble_eq_true rfl)⟩ ⟨(Nat.le_of_ble_eq_true rfl), (Nat.le_of_ble_eq_true rfl)⟩ dX2_putNumber_35 (fun _ _ z => False.elim z) (fun v9 ws9 h6 => ?_)
    obtain ⟨r8, rfl, hw9⟩ := h6
    subst ws9
    dsimp only [mPush]
    exact r_iret hX hE dX2_putNumber_38 (Nat.le_of_ble_eq_true rfl) (Nat.le_of_ble_eq_true rfl) ⟨_, (K.1, vp_updL K.2.1 _ _, K.2.2), rfl, rfl, rfl⟩
  · refine r_aload_n hX dX2_putNumber_22 rfl rfl ?_
    refine r_callV hX (c_X2_refused _ _ _ _) kv_X2_56 0 rfl rfl rfl rfl (Nat.le_of_ble_eq_true rfl) ⟨(Nat.le_of_ble_eq_true rfl), (Nat.le_of_ble_eq_true rfl)⟩ ⟨(Nat.le_of_ble_eq_true rfl), (Nat.le_of_ble_eq_true rfl)⟩ dX2_putNumber_23 (fun _ _ z => False.elim z) (fun v9 ws9 h9 => ?_)
    obtain ⟨r11, K12, hK12, rfl, hw9⟩ := h9
    subst ws9
    dsimp only [mPush]
    exact r_iret hX hE dX2_putNumber_26 (Nat.le_of_ble_eq_true rfl) (Nat.le_of_ble_eq_true rfl) ⟨_, _, (hK12.trans rfl), rfl, rfl⟩
theorem dX2_putLocal_0 : decode cX2_putLocal 0 = .ok (.lload_n 2, 1) := by decide +kernel
theorem dX2_putLocal_1 : decode cX2_putLocal 1 = .ok (.ldc2_w 266, 3) := by decide +kernel
theorem dX2_putLocal_4 : decode cX2_putLocal 4 = .ok (.ldc2_w 268, 3) := by decide +kernel
theorem dX2_putLocal_7 : decode cX2_putLocal 7 = .ok (.invokestatic 48, 3) := by decide +kernel
theorem dX2_putLocal_10 : decode cX2_putLocal 10 = .ok (.ifCond .ne 8, 3) := by decide +kernel
theorem dX2_putLocal_13 : decode cX2_putLocal 13 = .ok (.aload_n 0, 1) := by decide +kernel
theorem dX2_putLocal_14 : decode cX2_putLocal 14 = .ok (.invokevirtual 56, 3) := by decide +kernel
theorem dX2_putLocal_17 : decode cX2_putLocal 17 = .ok (.ireturn, 1) := by decide +kernel
theorem dX2_putLocal_18 : decode cX2_putLocal 18 = .ok (.aload_n 1, 1) := by decide +kernel
theorem dX2_putLocal_19 : decode cX2_putLocal 19 = .ok (.lload_n 2, 1) := by decide +kernel
theorem dX2_putLocal_20 : decode cX2_putLocal 20 = .ok (.iload 4, 2) := by decide +kernel
theorem dX2_putLocal_22 : decode cX2_putLocal 22 = .ok (.iload 5, 2) := by decide +kernel
theorem dX2_putLocal_24 : decode cX2_putLocal 24 = .ok (.invokevirtual 270, 3) := by decide +kernel
theorem dX2_putLocal_27 : decode cX2_putLocal 27 = .ok (.aload_n 1, 1) := by decide +kernel
theorem dX2_putLocal_28 : decode cX2_putLocal 28 = .ok (.invokevirtual 274, 3) := by decide +kernel
theorem dX2_putLocal_31 : decode cX2_putLocal 31 = .ok (.ireturn, 1) := by decide +kernel
set_option maxHeartbeats 4000000 in
set_option maxRecDepth 20000 in
theorem c_X2_putLocal (ad : Nat → Nat) (cs : ClassId × ClassId × ClassId) (K : mK) (rest : va_W) (d0 : Nat) (hd0 : d0 < 9) (p1 : Int64) (p2 : Int32) (p3 : Int32) : mCt (mTy cs) yX2_putLocal cX2_putLocal 6 (some .int) ⟨2, 0, 0, 45⟩ [.ref (ad 0), .ref (ad (d0 + 5)), .long p1, .int p2, .int p3] (mWd ad cs K rest) (mWi ad cs K rest) mNo := by
  refine mCt.of (by decide +kernel) (Nat.le_of_ble_eq_true rfl) (fun X hX hE => ?_)
  have hX : mOK X RX2 cX2_putLocal 6 ⟨2, 0, 0, 45⟩ [] (mTy cs) := hX
  refine r_lload_n hX dX2_putLocal_0 rfl rfl ?_
  refine r_ldc2 hX kc_X2_266 dX2_putLocal_1 ?_
  refine r_ldc2 hX kc_X2_268 dX2_putLocal_4 ?_
  refine r_callS hX (c_X2_isWithin _ _ _ _ _) ks_X2_48 rfl rfl (Nat.le_of_ble_eq_true rfl) ⟨(Nat.le_of_ble_eq_true rfl), (Nat.le_of_ble_eq_true rfl)⟩ ⟨(Nat.le_of_ble_eq_true rfl), (Nat.le_of_ble_eq_true rfl)⟩ dX2_putLocal_7 (fun _ _ z => False.elim z) (fun v9 ws9 h1 => ?_)
  obtain ⟨rfl, hw9⟩ := h1
  subst ws9
  dsimp only [mPush]
  refine r_if_ne (tgt := 18) hX dX2_putLocal_10 (by decide) (fun c3 => ?_) (fun c3 => ?_)
  · refine r_aload_n hX dX2_putLocal_18 rfl rfl ?_
    refine r_lload_n hX dX2_putLocal_19 rfl rfl ?_
    refine r_iload hX dX2_putLocal_20 rfl ?_
    refine r_iload hX dX2_putLocal_22 rfl ?_
    refine r_callV hX (c_X1_tell _ _ (d0 + 5) _ _ _ _ (mWd_loc hd0) _ _ _) kv_X2_270 (d0 + 5) (mWd_loc hd0) rfl rfl rfl (Nat.le_of_ble_eq_true rfl) ⟨(Nat.le_of_ble_eq_true rfl), (Nat.le_of_ble_eq_true rfl)⟩ ⟨(Nat.le_of_ble_eq_true rfl), (Nat.le_of_ble_eq_true rfl)⟩ dX2_putLocal_24 (fun _ _ z => False.elim z) (fun v9 ws9 h4 => ?_)
    obtain ⟨rfl, hw9⟩ := h4
    subst ws9
    dsimp only [mPush]
    rw [mWd_set (d := d0) hd0]
    refine r_aload_n hX dX2_putLocal_27 rfl rfl ?_
    refine r_callV hX (c_X1_day _ _ (d0 + 5) _ _ _ _ (mWd_loc hd0)) kv_X2_274 (d0 + 5) (mWd_loc hd0) rfl rfl rfl (Nat.le_of_ble_eq_true rfl) ⟨(Nat.le_of_ble_eq_true rfl), (Nat.le_of_ble_eq_true rfl)⟩ ⟨(Nat.le_of_ble_eq_true rfl), (Nat.le_of_ble_eq_true rfl)⟩ dX2_putLocal_28 (fun _ _ z => False.elim z) (fun v9 ws9 h6 => ?_)
    obtain ⟨r8, rfl, hw9⟩ := h6
    subst ws9
    dsimp only [mPush]
    exact r_iret hX hE dX2_putLocal_31 (Nat.le_of_ble_eq_true rfl) (Nat.le_of_ble_eq_true rfl) ⟨_, (mKL K d0 _), rfl, rfl, rfl⟩
  · refine r_aload_n hX dX2_putLocal_13 rfl rfl ?_
    refine r_callV hX (c_X2_refused _ _ _ _) kv_X2_56 0 rfl rfl rfl rfl (Nat.le_of_ble_eq_true rfl) ⟨(Nat.le_of_ble_eq_true rfl), (Nat.le_of_ble_eq_true rfl)⟩ ⟨(Nat.le_of_ble_eq_true rfl), (Nat.le_of_ble_eq_true rfl)⟩ dX2_putLocal_14 (fun _ _ z => False.elim z) (fun v9 ws9 h9 => ?_)
    obtain ⟨r11, K12, hK12, rfl, hw9⟩ := h9
    subst ws9
    dsimp only [mPush]
    exact r_iret hX hE dX2_putLocal_17 (Nat.le_of_ble_eq_true rfl) (Nat.le_of_ble_eq_true rfl) ⟨_, K12, (hK12.trans rfl), rfl, rfl⟩
theorem dX2_putClock_0 : decode cX2_putClock 0 = .ok (.aload_n 1, 1) := by decide +kernel
theorem dX2_putClock_1 : decode cX2_putClock 1 = .ok (.lload_n 2, 1) := by decide +kernel
theorem dX2_putClock_2 : decode cX2_putClock 2 = .ok (.ldc2_w 130, 3) := by decide +kernel
theorem dX2_putClock_5 : decode cX2_putClock 5 = .ok (.invokestatic 277, 3) := by decide +kernel
theorem dX2_putClock_8 : decode cX2_putClock 8 = .ok (.iload 4, 2) := by decide +kernel
theorem dX2_putClock_10 : decode cX2_putClock 10 = .ok (.iload 5, 2) := by decide +kernel
theorem dX2_putClock_12 : decode cX2_putClock 12 = .ok (.invokevirtual 270, 3) := by decide +kernel
theorem dX2_putClock_15 : decode cX2_putClock 15 = .ok (.aload_n 1, 1) := by decide +kernel
theorem dX2_putClock_16 : decode cX2_putClock 16 = .ok (.invokevirtual 169, 3) := by decide +kernel
theorem dX2_putClock_19 : decode cX2_putClock 19 = .ok (.l2i, 1) := by decide +kernel
theorem dX2_putClock_20 : decode cX2_putClock 20 = .ok (.ireturn, 1) := by decide +kernel
set_option maxHeartbeats 4000000 in
set_option maxRecDepth 20000 in
theorem c_X2_putClock (ad : Nat → Nat) (cs : ClassId × ClassId × ClassId) (K : mK) (rest : va_W) (d0 : Nat) (hd0 : d0 < 9) (p1 : Int64) (p2 : Int32) (p3 : Int32) : mCt (mTy cs) yX2_putClock cX2_putClock 6 (some .int) ⟨1, 0, 0, 25⟩ [.ref (ad 0), .ref (ad (d0 + 5)), .long p1, .int p2, .int p3] (mWd ad cs K rest) (mWi ad cs K rest) mNo := by
  refine mCt.of (by decide +kernel) (Nat.le_of_ble_eq_true rfl) (fun X hX hE => ?_)
  have hX : mOK X RX2 cX2_putClock 6 ⟨1, 0, 0, 25⟩ [] (mTy cs) := hX
  refine r_aload_n hX dX2_putClock_0 rfl rfl ?_
  refine r_lload_n hX dX2_putClock_1 rfl rfl ?_
  refine r_ldc2 hX kc_X2_130 dX2_putClock_2 ?_
  refine r_callS hX (c_J9_floorMod_f86c9 _ _ _ _ (by decide)) ks_X2_277 rfl rfl (Nat.le_of_ble_eq_true rfl) ⟨(Nat.le_of_ble_eq_true rfl), (Nat.le_of_ble_eq_true rfl)⟩ ⟨(Nat.le_of_ble_eq_true rfl), (Nat.le_of_ble_eq_true rfl)⟩ dX2_putClock_5 (fun _ _ z => False.elim z) (fun v9 ws9 h1 => ?_)
  obtain ⟨r3, rfl, hw9⟩ := h1
  subst ws9
  dsimp only [mPush]
  refine r_iload hX dX2_putClock_8 rfl ?_
  refine r_iload hX dX2_putClock_10 rfl ?_
  refine r_callV hX (c_X1_tell _ _ (d0 + 5) _ _ _ _ (mWd_loc hd0) _ _ _) kv_X2_270 (d0 + 5) (mWd_loc hd0) rfl rfl rfl (Nat.le_of_ble_eq_true rfl) ⟨(Nat.le_of_ble_eq_true rfl), (Nat.le_of_ble_eq_true rfl)⟩ ⟨(Nat.le_of_ble_eq_true rfl), (Nat.le_of_ble_eq_true rfl)⟩ dX2_putClock_12 (fun _ _ z => False.elim z) (fun v9 ws9 h4 => ?_)
  obtain ⟨rfl, hw9⟩ := h4
  subst ws9
  dsimp only [mPush]
  rw [mWd_set (d := d0) hd0]
  refine r_aload_n hX dX2_putClock_15 rfl rfl ?_
  refine r_callV hX (c_X1_momentSecond _ _ (d0 + 5) _ _ _ _ (mWd_loc hd0)) kv_X2_169 (d0 + 5) (mWd_loc hd0) rfl rfl rfl (Nat.le_of_ble_eq_true rfl) ⟨(Nat.le_of_ble_eq_true rfl), (Nat.le_of_ble_eq_true rfl)⟩ ⟨(Nat.le_of_ble_eq_true rfl), (Nat.le_of_ble_eq_true rfl)⟩ dX2_putClock_16 (fun _ _ z => False.elim z) (fun v9 ws9 h6 => ?_)
  obtain ⟨r8, rfl, hw9⟩ := h6
  subst ws9
  dsimp only [mPush]
  refine r_l2i hX dX2_putClock_19 ?_
  exact r_iret hX hE dX2_putClock_20 (Nat.le_of_ble_eq_true rfl) (Nat.le_of_ble_eq_true rfl) ⟨_, (mKL K d0 _), rfl, rfl, rfl⟩
theorem dX2_firstMoment_0 : decode cX2_firstMoment 0 = .ok (.iconst 0, 1) := by decide +kernel
theorem dX2_firstMoment_1 : decode cX2_firstMoment 1 = .ok (.istore_n 1, 1) := by decide +kernel
theorem dX2_firstMoment_2 : decode cX2_firstMoment 2 = .ok (.iconst 1, 1) := by decide +kernel
theorem dX2_firstMoment_3 : decode cX2_firstMoment 3 = .ok (.istore_n 2, 1) := by decide +kernel
theorem dX2_firstMoment_4 : decode cX2_firstMoment 4 = .ok (.iload_n 2, 1) := by decide +kernel
theorem dX2_firstMoment_5 : decode cX2_firstMoment 5 = .ok (.aload_n 0, 1) := by decide +kernel
theorem dX2_firstMoment_6 : decode cX2_firstMoment 6 = .ok (.getfield 13, 3) := by decide +kernel
theorem dX2_firstMoment_9 : decode cX2_firstMoment 9 = .ok (.arraylength, 1) := by decide +kernel
theorem dX2_firstMoment_10 : decode cX2_firstMoment 10 = .ok (.if_icmp .ge 27, 3) := by decide +kernel
theorem dX2_firstMoment_13 : decode cX2_firstMoment 13 = .ok (.aload_n 0, 1) := by decide +kernel
theorem dX2_firstMoment_14 : decode cX2_firstMoment 14 = .ok (.getfield 13, 3) := by decide +kernel
theorem dX2_firstMoment_17 : decode cX2_firstMoment 17 = .ok (.iload_n 2, 1) := by decide +kernel
theorem dX2_firstMoment_18 : decode cX2_firstMoment 18 = .ok (.laload, 1) := by decide +kernel
theorem dX2_firstMoment_19 : decode cX2_firstMoment 19 = .ok (.aload_n 0, 1) := by decide +kernel
theorem dX2_firstMoment_20 : decode cX2_firstMoment 20 = .ok (.getfield 13, 3) := by decide +kernel
theorem dX2_firstMoment_23 : decode cX2_firstMoment 23 = .ok (.iload_n 1, 1) := by decide +kernel
theorem dX2_firstMoment_24 : decode cX2_firstMoment 24 = .ok (.laload, 1) := by decide +kernel
theorem dX2_firstMoment_25 : decode cX2_firstMoment 25 = .ok (.lcmp, 1) := by decide +kernel
theorem dX2_firstMoment_26 : decode cX2_firstMoment 26 = .ok (.ifCond .ge 5, 3) := by decide +kernel
theorem dX2_firstMoment_29 : decode cX2_firstMoment 29 = .ok (.iload_n 2, 1) := by decide +kernel
theorem dX2_firstMoment_30 : decode cX2_firstMoment 30 = .ok (.istore_n 1, 1) := by decide +kernel
theorem dX2_firstMoment_31 : decode cX2_firstMoment 31 = .ok (.iinc 2 1, 3) := by decide +kernel
theorem dX2_firstMoment_34 : decode cX2_firstMoment 34 = .ok (.goto (-30), 3) := by decide +kernel
theorem dX2_firstMoment_37 : decode cX2_firstMoment 37 = .ok (.iload_n 1, 1) := by decide +kernel
theorem dX2_firstMoment_38 : decode cX2_firstMoment 38 = .ok (.ireturn, 1) := by decide +kernel
set_option maxHeartbeats 4000000 in
set_option maxRecDepth 20000 in
theorem c_X2_firstMoment (ad : Nat → Nat) (cs : ClassId × ClassId × ClassId) (K : mK) (rest : va_W) : mCt (mTy cs) yX2_firstMoment cX2_firstMoment 3 (some .int) ⟨0, 0, 0, 0⟩ [.ref (ad 0)] (mWd ad cs K rest) (mWi ad cs K rest) mNo := by
  refine mCt.of (by decide +kernel) (Nat.le_of_ble_eq_true rfl) (fun X hX hE => ?_)
  have hX : mOK X RX2 cX2_firstMoment 3 ⟨0, 0, 0, 0⟩ [] (mTy cs) := hX
  refine r_iconst (v := 0) hX dX2_firstMoment_0 (by decide) ?_
  refine r_istore_n hX dX2_firstMoment_1 rfl (by decide) rfl ?_
  refine r_iconst (v := 1) hX dX2_firstMoment_2 (by decide) ?_
  refine r_istore_n hX dX2_firstMoment_3 rfl (by decide) rfl ?_
  have L4 : ∀ (N4 j1 : Nat) (f2 : Nat), 4 - j1 < N4 → j1 ≤ 4 → f2 < 4 → ∀ K3 : mK, K3.1 = K.1 → mV X 4 [(0, some (.ref (ad 0))), (1, some (.int (nI f2))), (2, some (.int (nI j1)))] [] (mWd ad cs K3 rest) 0 0 := by
    intro N4
    induction N4 with
    | zero => intro j1 f2; omega
    | succ N4 ih4 =>
      intro j1 f2 hN4 hj1e hf2 K3 hK3
      refine r_iload_n hX dX2_firstMoment_4 rfl rfl ?_
      refine r_aload_n hX dX2_firstMoment_5 rfl rfl ?_
      refine r_get hX kf_X2_13 0 rfl rfl dX2_firstMoment_6 ?_
      refine r_alen (v := nI 4) hX 2 1 rfl rfl rfl dX2_firstMoment_9 ?_
      refine r_icmp_ge (tgt := 37) hX dX2_firstMoment_10 (by decide) (fun c5 => ?_) (fun c5 => ?_)
      · refine r_iload_n hX dX2_firstMoment_37 rfl rfl ?_
        exact r_iret hX hE dX2_firstMoment_38 (Nat.le_of_ble_eq_true rfl) (Nat.le_of_ble_eq_true rfl) ⟨_, K3, hK3, rfl, rfl⟩
      · have hj1 : j1 < 4 := mlt (by first | rfl | decide) (by decide) hj1e c5
        refine r_aload_n hX dX2_firstMoment_13 rfl rfl ?_
        refine r_get hX kf_X2_13 0 rfl rfl dX2_firstMoment_14 ?_
        refine r_iload_n hX dX2_firstMoment_17 rfl rfl ?_
        refine r_lald hX 2 1 rfl rfl (vp_in_nI hj1 (by decide)) dX2_firstMoment_18 ?_
        refine r_aload_n hX dX2_firstMoment_19 rfl rfl ?_
        refine r_get hX kf_X2_13 0 rfl rfl dX2_firstMoment_20 ?_
        refine r_iload_n hX dX2_firstMoment_23 rfl rfl ?_
        refine r_lald hX 2 1 rfl rfl (vp_in_nI hf2 (by decide)) dX2_firstMoment_24 ?_
        refine r_lcmp hX dX2_firstMoment_25 ?_
        refine r_if_ge (tgt := 31) hX dX2_firstMoment_26 (by decide) (fun c6 => ?_) (fun c6 => ?_)
        · refine r_iinc hX dX2_firstMoment_31 rfl (by decide) rfl ?_
          refine r_goto (tgt := 4) hX dX2_firstMoment_34 (by decide) ?_
          exact r_loc (k' := 0) (n' := 0) (by exact ⟨rfl, rfl, nI_inc' _, trivial⟩) (by decide) (by decide) (ih4 (j1 + 1) f2 (by omega) (by omega) hf2 _ hK3)
        · refine r_iload_n hX dX2_firstMoment_29 rfl rfl ?_
          refine r_istore_n hX dX2_firstMoment_30 rfl (by decide) rfl ?_
          refine r_iinc hX dX2_firstMoment_31 rfl (by decide) rfl ?_
          refine r_goto (tgt := 4) hX dX2_firstMoment_34 (by decide) ?_
          exact r_loc (k' := 0) (n' := 0) (by exact ⟨rfl, rfl, nI_inc' _, trivial⟩) (by decide) (by decide) (ih4 (j1 + 1) j1 (by omega) (by omega) hj1 _ hK3)
  exact r_loc (k' := 0) (n' := 0) (by exact ⟨rfl, rfl, rfl, trivial⟩) (by decide) (by decide) (L4 (4 + 1) 1 0 (by omega) (by omega) (by decide) _ rfl)
theorem dX2_putDay_0 : decode cX2_putDay 0 = .ok (.aload_n 0, 1) := by decide +kernel
theorem dX2_putDay_1 : decode cX2_putDay 1 = .ok (.aload_n 1, 1) := by decide +kernel
theorem dX2_putDay_2 : decode cX2_putDay 2 = .ok (.iload_n 2, 1) := by decide +kernel
theorem dX2_putDay_3 : decode cX2_putDay 3 = .ok (.i2l, 1) := by decide +kernel
theorem dX2_putDay_4 : decode cX2_putDay 4 = .ok (.ldc2_w 130, 3) := by decide +kernel
theorem dX2_putDay_7 : decode cX2_putDay 7 = .ok (.lmul, 1) := by decide +kernel
theorem dX2_putDay_8 : decode cX2_putDay 8 = .ok (.aload_n 1, 1) := by decide +kernel
theorem dX2_putDay_9 : decode cX2_putDay 9 = .ok (.invokevirtual 320, 3) := by decide +kernel
theorem dX2_putDay_12 : decode cX2_putDay 12 = .ok (.i2l, 1) := by decide +kernel
theorem dX2_putDay_13 : decode cX2_putDay 13 = .ok (.ladd, 1) := by decide +kernel
theorem dX2_putDay_14 : decode cX2_putDay 14 = .ok (.aload_n 1, 1) := by decide +kernel
theorem dX2_putDay_15 : decode cX2_putDay 15 = .ok (.getfield 172, 3) := by decide +kernel
theorem dX2_putDay_18 : decode cX2_putDay 18 = .ok (.aload_n 1, 1) := by decide +kernel
theorem dX2_putDay_19 : decode cX2_putDay 19 = .ok (.getfield 158, 3) := by decide +kernel
theorem dX2_putDay_22 : decode cX2_putDay 22 = .ok (.invokevirtual 132, 3) := by decide +kernel
theorem dX2_putDay_25 : decode cX2_putDay 25 = .ok (.ireturn, 1) := by decide +kernel
set_option maxHeartbeats 4000000 in
set_option maxRecDepth 20000 in
theorem c_X2_putDay (ad : Nat → Nat) (cs : ClassId × ClassId × ClassId) (K : mK) (rest : va_W) (d0 : Nat) (hd0 : d0 < 9) (p1 : Int32) : mCt (mTy cs) yX2_putDay cX2_putDay 3 (some .int) ⟨3, 0, 0, 70⟩ [.ref (ad 0), .ref (ad (d0 + 5)), .int p1] (mWd ad cs K rest) (mWi ad cs K rest) mNo := by
  refine mCt.of (by decide +kernel) (Nat.le_of_ble_eq_true rfl) (fun X hX hE => ?_)
  have hX : mOK X RX2 cX2_putDay 3 ⟨3, 0, 0, 70⟩ [] (mTy cs) := hX
  refine r_aload_n hX dX2_putDay_0 rfl rfl ?_
  refine r_aload_n hX dX2_putDay_1 rfl rfl ?_
  refine r_iload_n hX dX2_putDay_2 rfl rfl ?_
  refine r_i2l hX dX2_putDay_3 ?_
  refine r_ldc2 hX kc_X2_130 dX2_putDay_4 ?_
  refine r_lmul hX dX2_putDay_7 ?_
  refine r_aload_n hX dX2_putDay_8 rfl rfl ?_
  refine r_callV hX (c_X1_secondOfDay _ _ (d0 + 5) _ _ _ _ (mWd_loc hd0)) kv_X2_320 (d0 + 5) (mWd_loc hd0) rfl rfl rfl (Nat.le_of_ble_eq_true rfl) ⟨(Nat.le_of_ble_eq_true rfl), (Nat.le_of_ble_eq_true rfl)⟩ ⟨(Nat.le_of_ble_eq_true rfl), (Nat.le_of_ble_eq_true rfl)⟩ dX2_putDay_9 (fun _ _ z => False.elim z) (fun v9 ws9 h1 => ?_)
  obtain ⟨r3, rfl, hw9⟩ := h1
  subst ws9
  dsimp only [mPush]
  refine r_i2l hX dX2_putDay_12 ?_
  refine r_ladd hX dX2_putDay_13 ?_
  refine r_aload_n hX dX2_putDay_14 rfl rfl ?_
  refine r_getN hX kg_X2_172 (d0 + 5) (mWd_loc hd0) rfl dX2_putDay_15 ?_
  refine r_aload_n hX dX2_putDay_18 rfl rfl ?_
  refine r_getN hX kg_X2_158 (d0 + 5) (mWd_loc hd0) rfl dX2_putDay_19 ?_
  refine r_callV hX (c_X2_putLocal _ _ _ _ d0 hd0 _ _ _) kv_X2_132 0 rfl rfl rfl rfl (Nat.le_of_ble_eq_true rfl) ⟨(Nat.le_of_ble_eq_true rfl), (Nat.le_of_ble_eq_true rfl)⟩ ⟨(Nat.le_of_ble_eq_true rfl), (Nat.le_of_ble_eq_true rfl)⟩ dX2_putDay_22 (fun _ _ z => False.elim z) (fun v9 ws9 h4 => ?_)
  obtain ⟨r6, K7, hK7, rfl, hw9⟩ := h4
  subst ws9
  dsimp only [mPush]
  exact r_iret hX hE dX2_putDay_25 (Nat.le_of_ble_eq_true rfl) (Nat.le_of_ble_eq_true rfl) ⟨_, K7, (hK7.trans rfl), rfl, rfl⟩
theorem dX2_putMonths_0 : decode cX2_putMonths 0 = .ok (.lload_n 2, 1) := by decide +kernel
theorem dX2_putMonths_1 : decode cX2_putMonths 1 = .ok (.ldc2_w 140, 3) := by decide +kernel
theorem dX2_putMonths_4 : decode cX2_putMonths 4 = .ok (.invokestatic 100, 3) := by decide +kernel
theorem dX2_putMonths_7 : decode cX2_putMonths 7 = .ok (.lstore 4, 2) := by decide +kernel
theorem dX2_putMonths_9 : decode cX2_putMonths 9 = .ok (.lload 4, 2) := by decide +kernel
theorem dX2_putMonths_11 : decode cX2_putMonths 11 = .ok (.ldc2_w 116, 3) := by decide +kernel
theorem dX2_putMonths_14 : decode cX2_putMonths 14 = .ok (.ldc2_w 118, 3) := by decide +kernel
theorem dX2_putMonths_17 : decode cX2_putMonths 17 = .ok (.invokestatic 48, 3) := by decide +kernel
theorem dX2_putMonths_20 : decode cX2_putMonths 20 = .ok (.ifCond .ne 8, 3) := by decide +kernel
theorem dX2_putMonths_23 : decode cX2_putMonths 23 = .ok (.aload_n 0, 1) := by decide +kernel
theorem dX2_putMonths_24 : decode cX2_putMonths 24 = .ok (.invokevirtual 56, 3) := by decide +kernel
theorem dX2_putMonths_27 : decode cX2_putMonths 27 = .ok (.ireturn, 1) := by decide +kernel
theorem dX2_putMonths_28 : decode cX2_putMonths 28 = .ok (.lload_n 2, 1) := by decide +kernel
theorem dX2_putMonths_29 : decode cX2_putMonths 29 = .ok (.ldc2_w 140, 3) := by decide +kernel
theorem dX2_putMonths_32 : decode cX2_putMonths 32 = .ok (.invokestatic 277, 3) := by decide +kernel
theorem dX2_putMonths_35 : decode cX2_putMonths 35 = .ok (.l2i, 1) := by decide +kernel
theorem dX2_putMonths_36 : decode cX2_putMonths 36 = .ok (.iconst 1, 1) := by decide +kernel
theorem dX2_putMonths_37 : decode cX2_putMonths 37 = .ok (.iadd, 1) := by decide +kernel
theorem dX2_putMonths_38 : decode cX2_putMonths 38 = .ok (.istore 6, 2) := by decide +kernel
theorem dX2_putMonths_40 : decode cX2_putMonths 40 = .ok (.lload 4, 2) := by decide +kernel
theorem dX2_putMonths_42 : decode cX2_putMonths 42 = .ok (.l2i, 1) := by decide +kernel
theorem dX2_putMonths_43 : decode cX2_putMonths 43 = .ok (.iload 6, 2) := by decide +kernel
theorem dX2_putMonths_45 : decode cX2_putMonths 45 = .ok (.invokestatic 308, 3) := by decide +kernel
theorem dX2_putMonths_48 : decode cX2_putMonths 48 = .ok (.istore 7, 2) := by decide +kernel
theorem dX2_putMonths_50 : decode cX2_putMonths 50 = .ok (.aload_n 1, 1) := by decide +kernel
theorem dX2_putMonths_51 : decode cX2_putMonths 51 = .ok (.invokevirtual 274, 3) := by decide +kernel
theorem dX2_putMonths_54 : decode cX2_putMonths 54 = .ok (.invokestatic 311, 3) := by decide +kernel
theorem dX2_putMonths_57 : decode cX2_putMonths 57 = .ok (.iload 7, 2) := by decide +kernel
theorem dX2_putMonths_59 : decode cX2_putMonths 59 = .ok (.invokestatic 314, 3) := by decide +kernel
theorem dX2_putMonths_62 : decode cX2_putMonths 62 = .ok (.istore 8, 2) := by decide +kernel
theorem dX2_putMonths_64 : decode cX2_putMonths 64 = .ok (.aload_n 0, 1) := by decide +kernel
theorem dX2_putMonths_65 : decode cX2_putMonths 65 = .ok (.aload_n 1, 1) := by decide +kernel
theorem dX2_putMonths_66 : decode cX2_putMonths 66 = .ok (.lload 4, 2) := by decide +kernel
theorem dX2_putMonths_68 : decode cX2_putMonths 68 = .ok (.l2i, 1) := by decide +kernel
theorem dX2_putMonths_69 : decode cX2_putMonths 69 = .ok (.iload 6, 2) := by decide +kernel
theorem dX2_putMonths_71 : decode cX2_putMonths 71 = .ok (.iload 8, 2) := by decide +kernel
theorem dX2_putMonths_73 : decode cX2_putMonths 73 = .ok (.invokestatic 126, 3) := by decide +kernel
theorem dX2_putMonths_76 : decode cX2_putMonths 76 = .ok (.invokevirtual 317, 3) := by decide +kernel
theorem dX2_putMonths_79 : decode cX2_putMonths 79 = .ok (.ireturn, 1) := by decide +kernel
set_option maxHeartbeats 4000000 in
set_option maxRecDepth 20000 in
theorem c_X2_putMonths (ad : Nat → Nat) (cs : ClassId × ClassId × ClassId) (K : mK) (rest : va_W) (d0 : Nat) (hd0 : d0 < 9) (p1 : Int64) : mCt (mTy cs) yX2_putMonths cX2_putMonths 9 (some .int) ⟨4, 0, 0, 92⟩ [.ref (ad 0), .ref (ad (d0 + 5)), .long p1] (mWd ad cs K rest) (mWi ad cs K rest) mNo := by
  refine mCt.of (by decide +kernel) (Nat.le_of_ble_eq_true rfl) (fun X hX hE => ?_)
  have hX : mOK X RX2 cX2_putMonths 9 ⟨4, 0, 0, 92⟩ [] (mTy cs) := hX
  refine r_lload_n hX dX2_putMonths_0 rfl rfl ?_
  refine r_ldc2 hX kc_X2_140 dX2_putMonths_1 ?_
  refine r_callS hX (c_J9_floorDiv_f86c9 _ _ _ _ (by decide)) ks_X2_100 rfl rfl (Nat.le_of_ble_eq_true rfl) ⟨(Nat.le_of_ble_eq_true rfl), (Nat.le_of_ble_eq_true rfl)⟩ ⟨(Nat.le_of_ble_eq_true rfl), (Nat.le_of_ble_eq_true rfl)⟩ dX2_putMonths_4 (fun _ _ z => False.elim z) (fun v9 ws9 h1 => ?_)
  obtain ⟨r3, rfl, hw9⟩ := h1
  subst ws9
  dsimp only [mPush]
  refine r_lstore hX dX2_putMonths_7 (by decide) rfl ?_
  refine r_lload hX dX2_putMonths_9 rfl ?_
  refine r_ldc2 hX kc_X2_116 dX2_putMonths_11 ?_
  refine r_ldc2 hX kc_X2_118 dX2_putMonths_14 ?_
  refine r_callS hX (c_X2_isWithin _ _ _ _ _) ks_X2_48 rfl rfl (Nat.le_of_ble_eq_true rfl) ⟨(Nat.le_of_ble_eq_true rfl), (Nat.le_of_ble_eq_true rfl)⟩ ⟨(Nat.le_of_ble_eq_true rfl), (Nat.le_of_ble_eq_true rfl)⟩ dX2_putMonths_17 (fun _ _ z => False.elim z) (fun v9 ws9 h4 => ?_)
  obtain ⟨rfl, hw9⟩ := h4
  subst ws9
  dsimp only [mPush]
  refine r_if_ne (tgt := 28) hX dX2_putMonths_20 (by decide) (fun c6 => ?_) (fun c6 => ?_)
  · refine r_lload_n hX dX2_putMonths_28 rfl rfl ?_
    refine r_ldc2 hX kc_X2_140 dX2_putMonths_29 ?_
    refine r_callS hX (c_J9_floorMod_f86c9 _ _ _ _ (by decide)) ks_X2_277 rfl rfl (Nat.le_of_ble_eq_true rfl) ⟨(Nat.le_of_ble_eq_true rfl), (Nat.le_of_ble_eq_true rfl)⟩ ⟨(Nat.le_of_ble_eq_true rfl), (Nat.le_of_ble_eq_true rfl)⟩ dX2_putMonths_32 (fun _ _ z => False.elim z) (fun v9 ws9 h7 => ?_)
    obtain ⟨r9, rfl, hw9⟩ := h7
    subst ws9
    dsimp only [mPush]
    refine r_l2i hX dX2_putMonths_35 ?_
    refine r_iconst (v := 1) hX dX2_putMonths_36 (by decide) ?_
    refine r_iadd hX dX2_putMonths_37 ?_
    refine r_istore hX dX2_putMonths_38 (by decide) rfl ?_
    refine r_lload hX dX2_putMonths_40 rfl ?_
    refine r_l2i hX dX2_putMonths_42 ?_
    refine r_iload hX dX2_putMonths_43 rfl ?_
    refine r_callS hX (c_X0_lengthOfMonth _ _ _ _) ks_X2_308 rfl rfl (Nat.le_of_ble_eq_true rfl) ⟨(Nat.le_of_ble_eq_true rfl), (Nat.le_of_ble_eq_true rfl)⟩ ⟨(Nat.le_of_ble_eq_true rfl), (Nat.le_of_ble_eq_true rfl)⟩ dX2_putMonths_45 (fun _ _ z => False.elim z) (fun v9 ws9 h10 => ?_)
    obtain ⟨r12, rfl, hw9⟩ := h10
    subst ws9
    dsimp only [mPush]
    refine r_istore hX dX2_putMonths_48 (by decide) rfl ?_
    refine r_aload_n hX dX2_putMonths_50 rfl rfl ?_
    refine r_callV hX (c_X1_day _ _ (d0 + 5) _ _ _ _ (mWd_loc hd0)) kv_X2_274 (d0 + 5) (mWd_loc hd0) rfl rfl rfl (Nat.le_of_ble_eq_true rfl) ⟨(Nat.le_of_ble_eq_true rfl), (Nat.le_of_ble_eq_true rfl)⟩ ⟨(Nat.le_of_ble_eq_true rfl), (Nat.le_of_ble_eq_true rfl)⟩ dX2_putMonths_51 (fun _ _ z => False.elim z) (fun v9 ws9 h13 => ?_)
    obtain ⟨r15, rfl, hw9⟩ := h13
    subst ws9
    dsimp only [mPush]
    refine r_callS hX (c_X0_dayOfMonth _ _ _) ks_X2_311 rfl rfl (Nat.le_of_ble_eq_true rfl) ⟨(Nat.le_of_ble_eq_true rfl), (Nat.le_of_ble_eq_true rfl)⟩ ⟨(Nat.le_of_ble_eq_true rfl), (Nat.le_of_ble_eq_true rfl)⟩ dX2_putMonths_54 (fun _ _ z => False.elim z) (fun v9 ws9 h16 => ?_)
    obtain ⟨r18, rfl, hw9⟩ := h16
    subst ws9
    dsimp only [mPush]
    refine r_iload hX dX2_putMonths_57 rfl ?_
    refine r_callS hX (c_J9_min_7cf53 _ _ _ _) ks_X2_314 rfl rfl (Nat.le_of_ble_eq_true rfl) ⟨(Nat.le_of_ble_eq_true rfl), (Nat.le_of_ble_eq_true rfl)⟩ ⟨(Nat.le_of_ble_eq_true rfl), (Nat.le_of_ble_eq_true rfl)⟩ dX2_putMonths_59 (fun _ _ z => False.elim z) (fun v9 ws9 h19 => ?_)
    obtain ⟨r21, rfl, hw9⟩ := h19
    subst ws9
    dsimp only [mPush]
    refine r_istore hX dX2_putMonths_62 (by decide) rfl ?_
    refine r_aload_n hX dX2_putMonths_64 rfl rfl ?_
    refine r_aload_n hX dX2_putMonths_65 rfl rfl ?_
    refine r_lload hX dX2_putMonths_66 rfl ?_
    refine r_l2i hX dX2_putMonths_68 ?_
    refine r_iload hX dX2_putMonths_69 rfl ?_
    refine r_iload hX dX2_putMonths_71 rfl ?_
    refine r_callS hX (c_X0_dayOf _ _ _ _ _) ks_X2_126 rfl rfl (Nat.le_of_ble_eq_true rfl) ⟨(Nat.le_of_ble_eq_true rfl), (Nat.le_of_ble_eq_true rfl)⟩ ⟨(Nat.le_of_ble_eq_true rfl), (Nat.le_of_ble_eq_true rfl)⟩ dX2_putMonths_73 (fun _ _ z => False.elim z) (fun v9 ws9 h22 => ?_)
    obtain ⟨r24, rfl, hw9⟩ := h22
    subst ws9
    dsimp only [mPush]
    refine r_callV hX (c_X2_putDay _ _ _ _ d0 hd0 _) kv_X2_317 0 rfl rfl rfl rfl (Nat.le_of_ble_eq_true rfl) ⟨(Nat.le_of_ble_eq_true rfl), (Nat.le_of_ble_eq_true rfl)⟩ ⟨(Nat.le_of_ble_eq_true rfl), (Nat.le_of_ble_eq_true rfl)⟩ dX2_putMonths_76 (fun _ _ z => False.elim z) (fun v9 ws9 h25 => ?_)
    obtain ⟨r27, K28, hK28, rfl, hw9⟩ := h25
    subst ws9
    dsimp only [mPush]
    exact r_iret hX hE dX2_putMonths_79 (Nat.le_of_ble_eq_true rfl) (Nat.le_of_ble_eq_true rfl) ⟨_, K28, (hK28.trans rfl), rfl, rfl⟩
  · refine r_aload_n hX dX2_putMonths_23 rfl rfl ?_
    refine r_callV hX (c_X2_refused _ _ _ _) kv_X2_56 0 rfl rfl rfl rfl (Nat.le_of_ble_eq_true rfl) ⟨(Nat.le_of_ble_eq_true rfl), (Nat.le_of_ble_eq_true rfl)⟩ ⟨(Nat.le_of_ble_eq_true rfl), (Nat.le_of_ble_eq_true rfl)⟩ dX2_putMonths_24 (fun _ _ z => False.elim z) (fun v9 ws9 h29 => ?_)
    obtain ⟨r31, K32, hK32, rfl, hw9⟩ := h29
    subst ws9
    dsimp only [mPush]
    exact r_iret hX hE dX2_putMonths_27 (Nat.le_of_ble_eq_true rfl) (Nat.le_of_ble_eq_true rfl) ⟨_, K32, (hK32.trans rfl), rfl, rfl⟩
theorem dX2_setPart_0 : decode cX2_setPart 0 = .ok (.iload_n 2, 1) := by decide +kernel
theorem dX2_setPart_1 : decode cX2_setPart 1 = .ok (.i2l, 1) := by decide +kernel
theorem dX2_setPart_2 : decode cX2_setPart 2 = .ok (.lconst 0, 1) := by decide +kernel
theorem dX2_setPart_3 : decode cX2_setPart 3 = .ok (.iload_n 3, 1) := by decide +kernel
theorem dX2_setPart_4 : decode cX2_setPart 4 = .ok (.i2l, 1) := by decide +kernel
theorem dX2_setPart_5 : decode cX2_setPart 5 = .ok (.invokestatic 48, 3) := by decide +kernel
theorem dX2_setPart_8 : decode cX2_setPart 8 = .ok (.ifCond .ne 8, 3) := by decide +kernel
theorem dX2_setPart_11 : decode cX2_setPart 11 = .ok (.aload_n 0, 1) := by decide +kernel
theorem dX2_setPart_12 : decode cX2_setPart 12 = .ok (.invokevirtual 56, 3) := by decide +kernel
theorem dX2_setPart_15 : decode cX2_setPart 15 = .ok (.ireturn, 1) := by decide +kernel
theorem dX2_setPart_16 : decode cX2_setPart 16 = .ok (.aload_n 0, 1) := by decide +kernel
theorem dX2_setPart_17 : decode cX2_setPart 17 = .ok (.aload_n 1, 1) := by decide +kernel
theorem dX2_setPart_18 : decode cX2_setPart 18 = .ok (.aload_n 1, 1) := by decide +kernel
theorem dX2_setPart_19 : decode cX2_setPart 19 = .ok (.getfield 146, 3) := by decide +kernel
theorem dX2_setPart_22 : decode cX2_setPart 22 = .ok (.iload_n 2, 1) := by decide +kernel
theorem dX2_setPart_23 : decode cX2_setPart 23 = .ok (.iload 4, 2) := by decide +kernel
theorem dX2_setPart_25 : decode cX2_setPart 25 = .ok (.isub, 1) := by decide +kernel
theorem dX2_setPart_26 : decode cX2_setPart 26 = .ok (.i2l, 1) := by decide +kernel
theorem dX2_setPart_27 : decode cX2_setPart 27 = .ok (.lload 5, 2) := by decide +kernel
theorem dX2_setPart_29 : decode cX2_setPart 29 = .ok (.lmul, 1) := by decide +kernel
theorem dX2_setPart_30 : decode cX2_setPart 30 = .ok (.ladd, 1) := by decide +kernel
theorem dX2_setPart_31 : decode cX2_setPart 31 = .ok (.aload_n 1, 1) := by decide +kernel
theorem dX2_setPart_32 : decode cX2_setPart 32 = .ok (.getfield 172, 3) := by decide +kernel
theorem dX2_setPart_35 : decode cX2_setPart 35 = .ok (.aload_n 1, 1) := by decide +kernel
theorem dX2_setPart_36 : decode cX2_setPart 36 = .ok (.getfield 158, 3) := by decide +kernel
theorem dX2_setPart_39 : decode cX2_setPart 39 = .ok (.invokevirtual 132, 3) := by decide +kernel
theorem dX2_setPart_42 : decode cX2_setPart 42 = .ok (.ireturn, 1) := by decide +kernel
set_option maxHeartbeats 4000000 in
set_option maxRecDepth 20000 in
theorem c_X2_setPart (ad : Nat → Nat) (cs : ClassId × ClassId × ClassId) (K : mK) (rest : va_W) (d0 : Nat) (hd0 : d0 < 9) (p1 : Int32) (p2 : Int32) (p3 : Int32) (p4 : Int64) : mCt (mTy cs) yX2_setPart cX2_setPart 7 (some .int) ⟨3, 0, 0, 70⟩ [.ref (ad 0), .ref (ad (d0 + 5)), .int p1, .int p2, .int p3, .long p4] (mWd ad cs K rest) (mWi ad cs K rest) mNo := by
  refine mCt.of (by decide +kernel) (Nat.le_of_ble_eq_true rfl) (fun X hX hE => ?_)
  have hX : mOK X RX2 cX2_setPart 7 ⟨3, 0, 0, 70⟩ [] (mTy cs) := hX
  refine r_iload_n hX dX2_setPart_0 rfl rfl ?_
  refine r_i2l hX dX2_setPart_1 ?_
  refine r_lconst (v := 0) hX dX2_setPart_2 (by decide) ?_
  refine r_iload_n hX dX2_setPart_3 rfl rfl ?_
  refine r_i2l hX dX2_setPart_4 ?_
  refine r_callS hX (c_X2_isWithin _ _ _ _ _) ks_X2_48 rfl rfl (Nat.le_of_ble_eq_true rfl) ⟨(Nat.le_of_ble_eq_true rfl), (Nat.le_of_ble_eq_true rfl)⟩ ⟨(Nat.le_of_ble_eq_true rfl), (Nat.le_of_ble_eq_true rfl)⟩ dX2_setPart_5 (fun _ _ z => False.elim z) (fun v9 ws9 h1 => ?_)
  obtain ⟨rfl, hw9⟩ := h1
  subst ws9
  dsimp only [mPush]
  refine r_if_ne (tgt := 16) hX dX2_setPart_8 (by decide) (fun c3 => ?_) (fun c3 => ?_)
  · refine r_aload_n hX dX2_setPart_16 rfl rfl ?_
    refine r_aload_n hX dX2_setPart_17 rfl rfl ?_
    refine r_aload_n hX dX2_setPart_18 rfl rfl ?_
    refine r_getN hX kg_X2_146 (d0 + 5) (mWd_loc hd0) rfl dX2_setPart_19 ?_
    refine r_iload_n hX dX2_setPart_22 rfl rfl ?_
    refine r_iload hX dX2_setPart_23 rfl ?_
    refine r_isub hX dX2_setPart_25 ?_
    refine r_i2l hX dX2_setPart_26 ?_
    refine r_lload hX dX2_setPart_27 rfl ?_
    refine r_lmul hX dX2_setPart_29 ?_
    refine r_ladd hX dX2_setPart_30 ?_
    refine r_aload_n hX dX2_setPart_31 rfl rfl ?_
    refine r_getN hX kg_X2_172 (d0 + 5) (mWd_loc hd0) rfl dX2_setPart_32 ?_
    refine r_aload_n hX dX2_setPart_35 rfl rfl ?_
    refine r_getN hX kg_X2_158 (d0 + 5) (mWd_loc hd0) rfl dX2_setPart_36 ?_
    refine r_callV hX (c_X2_putLocal _ _ _ _ d0 hd0 _ _ _) kv_X2_132 0 rfl rfl rfl rfl (Nat.le_of_ble_eq_true rfl) ⟨(Nat.le_of_ble_eq_true rfl), (Nat.le_of_ble_eq_true rfl)⟩ ⟨(Nat.le_of_ble_eq_true rfl), (Nat.le_of_ble_eq_true rfl)⟩ dX2_setPart_39 (fun _ _ z => False.elim z) (fun v9 ws9 h4 => ?_)
    obtain ⟨r6, K7, hK7, rfl, hw9⟩ := h4
    subst ws9
    dsimp only [mPush]
    exact r_iret hX hE dX2_setPart_42 (Nat.le_of_ble_eq_true rfl) (Nat.le_of_ble_eq_true rfl) ⟨_, K7, (hK7.trans rfl), rfl, rfl⟩
  · refine r_aload_n hX dX2_setPart_11 rfl rfl ?_
    refine r_callV hX (c_X2_refused _ _ _ _) kv_X2_56 0 rfl rfl rfl rfl (Nat.le_of_ble_eq_true rfl) ⟨(Nat.le_of_ble_eq_true rfl), (Nat.le_of_ble_eq_true rfl)⟩ ⟨(Nat.le_of_ble_eq_true rfl), (Nat.le_of_ble_eq_true rfl)⟩ dX2_setPart_12 (fun _ _ z => False.elim z) (fun v9 ws9 h8 => ?_)
    obtain ⟨r10, K11, hK11, rfl, hw9⟩ := h8
    subst ws9
    dsimp only [mPush]
    exact r_iret hX hE dX2_setPart_15 (Nat.le_of_ble_eq_true rfl) (Nat.le_of_ble_eq_true rfl) ⟨_, K11, (hK11.trans rfl), rfl, rfl⟩
theorem dX2_setOfDay_0 : decode cX2_setOfDay 0 = .ok (.aload_n 1, 1) := by decide +kernel
theorem dX2_setOfDay_1 : decode cX2_setOfDay 1 = .ok (.invokevirtual 274, 3) := by decide +kernel
theorem dX2_setOfDay_4 : decode cX2_setOfDay 4 = .ok (.invokestatic 323, 3) := by decide +kernel
theorem dX2_setOfDay_7 : decode cX2_setOfDay 7 = .ok (.istore 4, 2) := by decide +kernel
theorem dX2_setOfDay_9 : decode cX2_setOfDay 9 = .ok (.aload_n 1, 1) := by decide +kernel
theorem dX2_setOfDay_10 : decode cX2_setOfDay 10 = .ok (.invokevirtual 274, 3) := by decide +kernel
theorem dX2_setOfDay_13 : decode cX2_setOfDay 13 = .ok (.invokestatic 326, 3) := by decide +kernel
theorem dX2_setOfDay_16 : decode cX2_setOfDay 16 = .ok (.istore 5, 2) := by decide +kernel
theorem dX2_setOfDay_18 : decode cX2_setOfDay 18 = .ok (.iload_n 2, 1) := by decide +kernel
theorem dX2_setOfDay_19 : decode cX2_setOfDay 19 = .ok (.tableswitch 118 0 2 #[25, 43, 80], 25) := by decide +kernel
theorem dX2_setOfDay_44 : decode cX2_setOfDay 44 = .ok (.aload_n 0, 1) := by decide +kernel
theorem dX2_setOfDay_45 : decode cX2_setOfDay 45 = .ok (.aload_n 1, 1) := by decide +kernel
theorem dX2_setOfDay_46 : decode cX2_setOfDay 46 = .ok (.iload_n 3, 1) := by decide +kernel
theorem dX2_setOfDay_47 : decode cX2_setOfDay 47 = .ok (.i2l, 1) := by decide +kernel
theorem dX2_setOfDay_48 : decode cX2_setOfDay 48 = .ok (.ldc2_w 140, 3) := by decide +kernel
theorem dX2_setOfDay_51 : decode cX2_setOfDay 51 = .ok (.lmul, 1) := by decide +kernel
theorem dX2_setOfDay_52 : decode cX2_setOfDay 52 = .ok (.iload 5, 2) := by decide +kernel
theorem dX2_setOfDay_54 : decode cX2_setOfDay 54 = .ok (.i2l, 1) := by decide +kernel
theorem dX2_setOfDay_55 : decode cX2_setOfDay 55 = .ok (.ladd, 1) := by decide +kernel
theorem dX2_setOfDay_56 : decode cX2_setOfDay 56 = .ok (.lconst 1, 1) := by decide +kernel
theorem dX2_setOfDay_57 : decode cX2_setOfDay 57 = .ok (.lsub, 1) := by decide +kernel
theorem dX2_setOfDay_58 : decode cX2_setOfDay 58 = .ok (.invokevirtual 142, 3) := by decide +kernel
theorem dX2_setOfDay_61 : decode cX2_setOfDay 61 = .ok (.ireturn, 1) := by decide +kernel
theorem dX2_setOfDay_62 : decode cX2_setOfDay 62 = .ok (.iload_n 3, 1) := by decide +kernel
theorem dX2_setOfDay_63 : decode cX2_setOfDay 63 = .ok (.i2l, 1) := by decide +kernel
theorem dX2_setOfDay_64 : decode cX2_setOfDay 64 = .ok (.lconst 1, 1) := by decide +kernel
theorem dX2_setOfDay_65 : decode cX2_setOfDay 65 = .ok (.ldc2_w 140, 3) := by decide +kernel
theorem dX2_setOfDay_68 : decode cX2_setOfDay 68 = .ok (.invokestatic 48, 3) := by decide +kernel
theorem dX2_setOfDay_71 : decode cX2_setOfDay 71 = .ok (.ifCond .eq 23, 3) := by decide +kernel
theorem dX2_setOfDay_74 : decode cX2_setOfDay 74 = .ok (.aload_n 0, 1) := by decide +kernel
theorem dX2_setOfDay_75 : decode cX2_setOfDay 75 = .ok (.aload_n 1, 1) := by decide +kernel
theorem dX2_setOfDay_76 : decode cX2_setOfDay 76 = .ok (.iload 4, 2) := by decide +kernel
theorem dX2_setOfDay_78 : decode cX2_setOfDay 78 = .ok (.i2l, 1) := by decide +kernel
theorem dX2_setOfDay_79 : decode cX2_setOfDay 79 = .ok (.ldc2_w 140, 3) := by decide +kernel
theorem dX2_setOfDay_82 : decode cX2_setOfDay 82 = .ok (.lmul, 1) := by decide +kernel
theorem dX2_setOfDay_83 : decode cX2_setOfDay 83 = .ok (.iload_n 3, 1) := by decide +kernel
theorem dX2_setOfDay_84 : decode cX2_setOfDay 84 = .ok (.i2l, 1) := by decide +kernel
theorem dX2_setOfDay_85 : decode cX2_setOfDay 85 = .ok (.ladd, 1) := by decide +kernel
theorem dX2_setOfDay_86 : decode cX2_setOfDay 86 = .ok (.lconst 1, 1) := by decide +kernel
theorem dX2_setOfDay_87 : decode cX2_setOfDay 87 = .ok (.lsub, 1) := by decide +kernel
theorem dX2_setOfDay_88 : decode cX2_setOfDay 88 = .ok (.invokevirtual 142, 3) := by decide +kernel
theorem dX2_setOfDay_91 : decode cX2_setOfDay 91 = .ok (.goto 7, 3) := by decide +kernel
theorem dX2_setOfDay_94 : decode cX2_setOfDay 94 = .ok (.aload_n 0, 1) := by decide +kernel
theorem dX2_setOfDay_95 : decode cX2_setOfDay 95 = .ok (.invokevirtual 56, 3) := by decide +kernel
theorem dX2_setOfDay_98 : decode cX2_setOfDay 98 = .ok (.ireturn, 1) := by decide +kernel
theorem dX2_setOfDay_99 : decode cX2_setOfDay 99 = .ok (.iload_n 3, 1) := by decide +kernel
theorem dX2_setOfDay_100 : decode cX2_setOfDay 100 = .ok (.i2l, 1) := by decide +kernel
theorem dX2_setOfDay_101 : decode cX2_setOfDay 101 = .ok (.lconst 1, 1) := by decide +kernel
theorem dX2_setOfDay_102 : decode cX2_setOfDay 102 = .ok (.iload 4, 2) := by decide +kernel
theorem dX2_setOfDay_104 : decode cX2_setOfDay 104 = .ok (.iload 5, 2) := by decide +kernel
theorem dX2_setOfDay_106 : decode cX2_setOfDay 106 = .ok (.invokestatic 308, 3) := by decide +kernel
theorem dX2_setOfDay_109 : decode cX2_setOfDay 109 = .ok (.i2l, 1) := by decide +kernel
theorem dX2_setOfDay_110 : decode cX2_setOfDay 110 = .ok (.invokestatic 48, 3) := by decide +kernel
theorem dX2_setOfDay_113 : decode cX2_setOfDay 113 = .ok (.ifCond .eq 19, 3) := by decide +kernel
theorem dX2_setOfDay_116 : decode cX2_setOfDay 116 = .ok (.aload_n 0, 1) := by decide +kernel
theorem dX2_setOfDay_117 : decode cX2_setOfDay 117 = .ok (.aload_n 1, 1) := by decide +kernel
theorem dX2_setOfDay_118 : decode cX2_setOfDay 118 = .ok (.iload 4, 2) := by decide +kernel
theorem dX2_setOfDay_120 : decode cX2_setOfDay 120 = .ok (.iload 5, 2) := by decide +kernel
theorem dX2_setOfDay_122 : decode cX2_setOfDay 122 = .ok (.iload_n 3, 1) := by decide +kernel
theorem dX2_setOfDay_123 : decode cX2_setOfDay 123 = .ok (.invokestatic 126, 3) := by decide +kernel
theorem dX2_setOfDay_126 : decode cX2_setOfDay 126 = .ok (.invokevirtual 317, 3) := by decide +kernel
theorem dX2_setOfDay_129 : decode cX2_setOfDay 129 = .ok (.goto 7, 3) := by decide +kernel
theorem dX2_setOfDay_132 : decode cX2_setOfDay 132 = .ok (.aload_n 0, 1) := by decide +kernel
theorem dX2_setOfDay_133 : decode cX2_setOfDay 133 = .ok (.invokevirtual 56, 3) := by decide +kernel
theorem dX2_setOfDay_136 : decode cX2_setOfDay 136 = .ok (.ireturn, 1) := by decide +kernel
theorem dX2_setOfDay_137 : decode cX2_setOfDay 137 = .ok (.iload_n 3, 1) := by decide +kernel
theorem dX2_setOfDay_138 : decode cX2_setOfDay 138 = .ok (.i2l, 1) := by decide +kernel
theorem dX2_setOfDay_139 : decode cX2_setOfDay 139 = .ok (.lconst 1, 1) := by decide +kernel
theorem dX2_setOfDay_140 : decode cX2_setOfDay 140 = .ok (.iload 4, 2) := by decide +kernel
theorem dX2_setOfDay_142 : decode cX2_setOfDay 142 = .ok (.invokestatic 329, 3) := by decide +kernel
theorem dX2_setOfDay_145 : decode cX2_setOfDay 145 = .ok (.i2l, 1) := by decide +kernel
theorem dX2_setOfDay_146 : decode cX2_setOfDay 146 = .ok (.invokestatic 48, 3) := by decide +kernel
theorem dX2_setOfDay_149 : decode cX2_setOfDay 149 = .ok (.ifCond .eq 20, 3) := by decide +kernel
theorem dX2_setOfDay_152 : decode cX2_setOfDay 152 = .ok (.aload_n 0, 1) := by decide +kernel
theorem dX2_setOfDay_153 : decode cX2_setOfDay 153 = .ok (.aload_n 1, 1) := by decide +kernel
theorem dX2_setOfDay_154 : decode cX2_setOfDay 154 = .ok (.iload 4, 2) := by decide +kernel
theorem dX2_setOfDay_156 : decode cX2_setOfDay 156 = .ok (.invokestatic 332, 3) := by decide +kernel
theorem dX2_setOfDay_159 : decode cX2_setOfDay 159 = .ok (.iload_n 3, 1) := by decide +kernel
theorem dX2_setOfDay_160 : decode cX2_setOfDay 160 = .ok (.iadd, 1) := by decide +kernel
theorem dX2_setOfDay_161 : decode cX2_setOfDay 161 = .ok (.iconst 1, 1) := by decide +kernel
theorem dX2_setOfDay_162 : decode cX2_setOfDay 162 = .ok (.isub, 1) := by decide +kernel
theorem dX2_setOfDay_163 : decode cX2_setOfDay 163 = .ok (.invokevirtual 317, 3) := by decide +kernel
theorem dX2_setOfDay_166 : decode cX2_setOfDay 166 = .ok (.goto 7, 3) := by decide +kernel
theorem dX2_setOfDay_169 : decode cX2_setOfDay 169 = .ok (.aload_n 0, 1) := by decide +kernel
theorem dX2_setOfDay_170 : decode cX2_setOfDay 170 = .ok (.invokevirtual 56, 3) := by decide +kernel
theorem dX2_setOfDay_173 : decode cX2_setOfDay 173 = .ok (.ireturn, 1) := by decide +kernel
set_option maxHeartbeats 4000000 in
set_option maxRecDepth 20000 in
theorem c_X2_setOfDay (ad : Nat → Nat) (cs : ClassId × ClassId × ClassId) (K : mK) (rest : va_W) (d0 : Nat) (hd0 : d0 < 9) (p1 : Int32) (p2 : Int32) : mCt (mTy cs) yX2_setOfDay cX2_setOfDay 6 (some .int) ⟨5, 0, 0, 120⟩ [.ref (ad 0), .ref (ad (d0 + 5)), .int p1, .int p2] (mWd ad cs K rest) (mWi ad cs K rest) mNo := by
  refine mCt.of (by decide +kernel) (Nat.le_of_ble_eq_true rfl) (fun X hX hE => ?_)
  have hX : mOK X RX2 cX2_setOfDay 6 ⟨5, 0, 0, 120⟩ [] (mTy cs) := hX
  refine r_aload_n hX dX2_setOfDay_0 rfl rfl ?_
  refine r_callV hX (c_X1_day _ _ (d0 + 5) _ _ _ _ (mWd_loc hd0)) kv_X2_274 (d0 + 5) (mWd_loc hd0) rfl rfl rfl (Nat.le_of_ble_eq_true rfl) ⟨(Nat.le_of_ble_eq_true rfl), (Nat.le_of_ble_eq_true rfl)⟩ ⟨(Nat.le_of_ble_eq_true rfl), (Nat.le_of_ble_eq_true rfl)⟩ dX2_setOfDay_1 (fun _ _ z => False.elim z) (fun v9 ws9 h1 => ?_)
  obtain ⟨r3, rfl, hw9⟩ := h1
  subst ws9
  dsimp only [mPush]
  refine r_callS hX (c_X0_yearOf _ _ _) ks_X2_323 rfl rfl (Nat.le_of_ble_eq_true rfl) ⟨(Nat.le_of_ble_eq_true rfl), (Nat.le_of_ble_eq_true rfl)⟩ ⟨(Nat.le_of_ble_eq_true rfl), (Nat.le_of_ble_eq_true rfl)⟩ dX2_setOfDay_4 (fun _ _ z => False.elim z) (fun v9 ws9 h4 => ?_)
  obtain ⟨r6, rfl, hw9⟩ := h4
  subst ws9
  dsimp only [mPush]
  refine r_istore hX dX2_setOfDay_7 (by decide) rfl ?_
  refine r_aload_n hX dX2_setOfDay_9 rfl rfl ?_
  refine r_callV hX (c_X1_day _ _ (d0 + 5) _ _ _ _ (mWd_loc hd0)) kv_X2_274 (d0 + 5) (mWd_loc hd0) rfl rfl rfl (Nat.le_of_ble_eq_true rfl) ⟨(Nat.le_of_ble_eq_true rfl), (Nat.le_of_ble_eq_true rfl)⟩ ⟨(Nat.le_of_ble_eq_true rfl), (Nat.le_of_ble_eq_true rfl)⟩ dX2_setOfDay_10 (fun _ _ z => False.elim z) (fun v9 ws9 h7 => ?_)
  obtain ⟨r9, rfl, hw9⟩ := h7
  subst ws9
  dsimp only [mPush]
  refine r_callS hX (c_X0_monthOf _ _ _) ks_X2_326 rfl rfl (Nat.le_of_ble_eq_true rfl) ⟨(Nat.le_of_ble_eq_true rfl), (Nat.le_of_ble_eq_true rfl)⟩ ⟨(Nat.le_of_ble_eq_true rfl), (Nat.le_of_ble_eq_true rfl)⟩ dX2_setOfDay_13 (fun _ _ z => False.elim z) (fun v9 ws9 h10 => ?_)
  obtain ⟨r12, rfl, hw9⟩ := h10
  subst ws9
  dsimp only [mPush]
  refine r_istore hX dX2_setOfDay_16 (by decide) rfl ?_
  refine r_iload_n hX dX2_setOfDay_18 rfl rfl ?_
  by_cases s13 : p1.toInt = 0
  · refine r_tableIn (off := 25) (tgt := 44) hX dX2_setOfDay_19 (by omega) (by omega) (by rw [s13]; rfl) (by decide) ?_
    refine r_aload_n hX dX2_setOfDay_44 rfl rfl ?_
    refine r_aload_n hX dX2_setOfDay_45 rfl rfl ?_
    refine r_iload_n hX dX2_setOfDay_46 rfl rfl ?_
    refine r_i2l hX dX2_setOfDay_47 ?_
    refine r_ldc2 hX kc_X2_140 dX2_setOfDay_48 ?_
    refine r_lmul hX dX2_setOfDay_51 ?_
    refine r_iload hX dX2_setOfDay_52 rfl ?_
    refine r_i2l hX dX2_setOfDay_54 ?_
    refine r_ladd hX dX2_setOfDay_55 ?_
    refine r_lconst (v := 1) hX dX2_setOfDay_56 (by decide) ?_
    refine r_lsub hX dX2_setOfDay_57 ?_
    refine r_callV hX (c_X2_putMonths _ _ _ _ d0 hd0 _) kv_X2_142 0 rfl rfl rfl rfl (Nat.le_of_ble_eq_true rfl) ⟨(Nat.le_of_ble_eq_true rfl), (Nat.le_of_ble_eq_true rfl)⟩ ⟨(Nat.le_of_ble_eq_true rfl), (Nat.le_of_ble_eq_true rfl)⟩ dX2_setOfDay_58 (fun _ _ z => False.elim z) (fun v9 ws9 h14 => ?_)
    obtain ⟨r16, K17, hK17, rfl, hw9⟩ := h14
    subst ws9
    dsimp only [mPush]
    exact r_iret hX hE dX2_setOfDay_61 (Nat.le_of_ble_eq_true rfl) (Nat.le_of_ble_eq_true rfl) ⟨_, K17, (hK17.trans rfl), rfl, rfl⟩
  by_cases s18 : p1.toInt = 1
  · refine r_tableIn (off := 43) (tgt := 62) hX dX2_setOfDay_19 (by omega) (by omega) (by rw [s18]; rfl) (by decide) ?_
    refine r_iload_n hX dX2_setOfDay_62 rfl rfl ?_
    refine r_i2l hX dX2_setOfDay_63 ?_
    refine r_lconst (v := 1) hX dX2_setOfDay_64 (by decide) ?_
    refine r_ldc2 hX kc_X2_140 dX2_setOfDay_65 ?_
    refine r_callS hX (c_X2_isWithin _ _ _ _ _) ks_X2_48 rfl rfl (Nat.le_of_ble_eq_true rfl) ⟨(Nat.le_of_ble_eq_true rfl), (Nat.le_of_ble_eq_true rfl)⟩ ⟨(Nat.le_of_ble_eq_true rfl), (Nat.le_of_ble_eq_true rfl)⟩ dX2_setOfDay_68 (fun _ _ z => False.elim z) (fun v9 ws9 h19 => ?_)
    obtain ⟨rfl, hw9⟩ := h19
    subst ws9
    dsimp only [mPush]
    refine r_if_eq (tgt := 94) hX dX2_setOfDay_71 (by decide) (fun c21 => ?_) (fun c21 => ?_)
    · refine r_aload_n hX dX2_setOfDay_94 rfl rfl ?_
      refine r_callV hX (c_X2_refused _ _ _ _) kv_X2_56 0 rfl rfl rfl rfl (Nat.le_of_ble_eq_true rfl) ⟨(Nat.le_of_ble_eq_true rfl), (Nat.le_of_ble_eq_true rfl)⟩ ⟨(Nat.le_of_ble_eq_true rfl), (Nat.le_of_ble_eq_true rfl)⟩ dX2_setOfDay_95 (fun _ _ z => False.elim z) (fun v9 ws9 h22 => ?_)
      obtain ⟨r24, K25, hK25, rfl, hw9⟩ := h22
      subst ws9
      dsimp only [mPush]
      exact r_iret hX hE dX2_setOfDay_98 (Nat.le_of_ble_eq_true rfl) (Nat.le_of_ble_eq_true rfl) ⟨_, K25, (hK25.trans rfl), rfl, rfl⟩
    · refine r_aload_n hX dX2_setOfDay_74 rfl rfl ?_
      refine r_aload_n hX dX2_setOfDay_75 rfl rfl ?_
      refine r_iload hX dX2_setOfDay_76 rfl ?_
      refine r_i2l hX dX2_setOfDay_78 ?_
      refine r_ldc2 hX kc_X2_140 dX2_setOfDay_79 ?_
      refine r_lmul hX dX2_setOfDay_82 ?_
      refine r_iload_n hX dX2_setOfDay_83 rfl rfl ?_
      refine r_i2l hX dX2_setOfDay_84 ?_
      refine r_ladd hX dX2_setOfDay_85 ?_
      refine r_lconst (v := 1) hX dX2_setOfDay_86 (by decide) ?_
      refine r_lsub hX dX2_setOfDay_87 ?_
      refine r_callV hX (c_X2_putMonths _ _ _ _ d0 hd0 _) kv_X2_142 0 rfl rfl rfl rfl (Nat.le_of_ble_eq_true rfl) ⟨(Nat.le_of_ble_eq_true rfl), (Nat.le_of_ble_eq_true rfl)⟩ ⟨(Nat.le_of_ble_eq_true rfl), (Nat.le_of_ble_eq_true rfl)⟩ dX2_setOfDay_88 (fun _ _ z => False.elim z) (fun v9 ws9 h26 => ?_)
      obtain ⟨r28, K29, hK29, rfl, hw9⟩ := h26
      subst ws9
      dsimp only [mPush]
      refine r_goto (tgt := 98) hX dX2_setOfDay_91 (by decide) ?_
      exact r_iret hX hE dX2_setOfDay_98 (Nat.le_of_ble_eq_true rfl) (Nat.le_of_ble_eq_true rfl) ⟨_, K29, (hK29.trans rfl), rfl, rfl⟩
  by_cases s30 : p1.toInt = 2
  · refine r_tableIn (off := 80) (tgt := 99) hX dX2_setOfDay_19 (by omega) (by omega) (by rw [s30]; rfl) (by decide) ?_
    refine r_iload_n hX dX2_setOfDay_99 rfl rfl ?_
    refine r_i2l hX dX2_setOfDay_100 ?_
    refine r_lconst (v := 1) hX dX2_setOfDay_101 (by decide) ?_
    refine r_iload hX dX2_setOfDay_102 rfl ?_
    refine r_iload hX dX2_setOfDay_104 rfl ?_
    refine r_callS hX (c_X0_lengthOfMonth _ _ _ _) ks_X2_308 rfl rfl (Nat.le_of_ble_eq_true rfl) ⟨(Nat.le_of_ble_eq_true rfl), (Nat.le_of_ble_eq_true rfl)⟩ ⟨(Nat.le_of_ble_eq_true rfl), (Nat.le_of_ble_eq_true rfl)⟩ dX2_setOfDay_106 (fun _ _ z => False.elim z) (fun v9 ws9 h31 => ?_)
    obtain ⟨r33, rfl, hw9⟩ := h31
    subst ws9
    dsimp only [mPush]
    refine r_i2l hX dX2_setOfDay_109 ?_
    refine r_callS hX (c_X2_isWithin _ _ _ _ _) ks_X2_48 rfl rfl (Nat.le_of_ble_eq_true rfl) ⟨(Nat.le_of_ble_eq_true rfl), (Nat.le_of_ble_eq_true rfl)⟩ ⟨(Nat.le_of_ble_eq_true rfl), (Nat.le_of_ble_eq_true rfl)⟩ dX2_setOfDay_110 (fun _ _ z => False.elim z) (fun v9 ws9 h34 => ?_)
    obtain ⟨rfl, hw9⟩ := h34
    subst ws9
    dsimp only [mPush]
    refine r_if_eq (tgt := 132) hX dX2_setOfDay_113 (by decide) (fun c36 => ?_) (fun c36 => ?_)
    · refine r_aload_n hX dX2_setOfDay_132 rfl rfl ?_
      refine r_callV hX (c_X2_refused _ _ _ _) kv_X2_56 0 rfl rfl rfl rfl (Nat.le_of_ble_eq_true rfl) ⟨(Nat.le_of_ble_eq_true rfl), (Nat.le_of_ble_eq_true rfl)⟩ ⟨(Nat.le_of_ble_eq_true rfl), (Nat.le_of_ble_eq_true rfl)⟩ dX2_setOfDay_133 (fun _ _ z => False.elim z) (fun v9 ws9 h37 => ?_)
      obtain ⟨r39, K40, hK40, rfl, hw9⟩ := h37
      subst ws9
      dsimp only [mPush]
      exact r_iret hX hE dX2_setOfDay_136 (Nat.le_of_ble_eq_true rfl) (Nat.le_of_ble_eq_true rfl) ⟨_, K40, (hK40.trans rfl), rfl, rfl⟩
    · refine r_aload_n hX dX2_setOfDay_116 rfl rfl ?_
      refine r_aload_n hX dX2_setOfDay_117 rfl rfl ?_
      refine r_iload hX dX2_setOfDay_118 rfl ?_
      refine r_iload hX dX2_setOfDay_120 rfl ?_
      refine r_iload_n hX dX2_setOfDay_122 rfl rfl ?_
      refine r_callS hX (c_X0_dayOf _ _ _ _ _) ks_X2_126 rfl rfl (Nat.le_of_ble_eq_true rfl) ⟨(Nat.le_of_ble_eq_true rfl), (Nat.le_of_ble_eq_true rfl)⟩ ⟨(Nat.le_of_ble_eq_true rfl), (Nat.le_of_ble_eq_true rfl)⟩ dX2_setOfDay_123 (fun _ _ z => False.elim z) (fun v9 ws9 h41 => ?_)
      obtain ⟨r43, rfl, hw9⟩ := h41
      subst ws9
      dsimp only [mPush]
      refine r_callV hX (c_X2_putDay _ _ _ _ d0 hd0 _) kv_X2_317 0 rfl rfl rfl rfl (Nat.le_of_ble_eq_true rfl) ⟨(Nat.le_of_ble_eq_true rfl), (Nat.le_of_ble_eq_true rfl)⟩ ⟨(Nat.le_of_ble_eq_true rfl), (Nat.le_of_ble_eq_true rfl)⟩ dX2_setOfDay_126 (fun _ _ z => False.elim z) (fun v9 ws9 h44 => ?_)
      obtain ⟨r46, K47, hK47, rfl, hw9⟩ := h44
      subst ws9
      dsimp only [mPush]
      refine r_goto (tgt := 136) hX dX2_setOfDay_129 (by decide) ?_
      exact r_iret hX hE dX2_setOfDay_136 (Nat.le_of_ble_eq_true rfl) (Nat.le_of_ble_eq_true rfl) ⟨_, K47, (hK47.trans rfl), rfl, rfl⟩
  refine r_tableOut (tgt := 137) hX dX2_setOfDay_19 (by omega) (by decide) ?_
  refine r_iload_n hX dX2_setOfDay_137 rfl rfl ?_
  refine r_i2l hX dX2_setOfDay_138 ?_
  refine r_lconst (v := 1) hX dX2_setOfDay_139 (by decide) ?_
  refine r_iload hX dX2_setOfDay_140 rfl ?_
  refine r_callS hX (c_X0_lengthOfYear _ _ _) ks_X2_329 rfl rfl (Nat.le_of_ble_eq_true rfl) ⟨(Nat.le_of_ble_eq_true rfl), (Nat.le_of_ble_eq_true rfl)⟩ ⟨(Nat.le_of_ble_eq_true rfl), (Nat.le_of_ble_eq_true rfl)⟩ dX2_setOfDay_142 (fun _ _ z => False.elim z) (fun v9 ws9 h48 => ?_)
  obtain ⟨r50, rfl, hw9⟩ := h48
  subst ws9
  dsimp only [mPush]
  refine r_i2l hX dX2_setOfDay_145 ?_
  refine r_callS hX (c_X2_isWithin _ _ _ _ _) ks_X2_48 rfl rfl (Nat.le_of_ble_eq_true rfl) ⟨(Nat.le_of_ble_eq_true rfl), (Nat.le_of_ble_eq_true rfl)⟩ ⟨(Nat.le_of_ble_eq_true rfl), (Nat.le_of_ble_eq_true rfl)⟩ dX2_setOfDay_146 (fun _ _ z => False.elim z) (fun v9 ws9 h51 => ?_)
  obtain ⟨rfl, hw9⟩ := h51
  subst ws9
  dsimp only [mPush]
  refine r_if_eq (tgt := 169) hX dX2_setOfDay_149 (by decide) (fun c53 => ?_) (fun c53 => ?_)
  · refine r_aload_n hX dX2_setOfDay_169 rfl rfl ?_
    refine r_callV hX (c_X2_refused _ _ _ _) kv_X2_56 0 rfl rfl rfl rfl (Nat.le_of_ble_eq_true rfl) ⟨(Nat.le_of_ble_eq_true rfl), (Nat.le_of_ble_eq_true rfl)⟩ ⟨(Nat.le_of_ble_eq_true rfl), (Nat.le_of_ble_eq_true rfl)⟩ dX2_setOfDay_170 (fun _ _ z => False.elim z) (fun v9 ws9 h54 => ?_)
    obtain ⟨r56, K57, hK57, rfl, hw9⟩ := h54
    subst ws9
    dsimp only [mPush]
    exact r_iret hX hE dX2_setOfDay_173 (Nat.le_of_ble_eq_true rfl) (Nat.le_of_ble_eq_true rfl) ⟨_, K57, (hK57.trans rfl), rfl, rfl⟩
  · refine r_aload_n hX dX2_setOfDay_152 rfl rfl ?_
    refine r_aload_n hX dX2_setOfDay_153 rfl rfl ?_
    refine r_iload hX dX2_setOfDay_154 rfl ?_
    refine r_callS hX (c_X0_firstDayOf _ _ _) ks_X2_332 rfl rfl (Nat.le_of_ble_eq_true rfl) ⟨(Nat.le_of_ble_eq_true rfl), (Nat.le_of_ble_eq_true rfl)⟩ ⟨(Nat.le_of_ble_eq_true rfl), (Nat.le_of_ble_eq_true rfl)⟩ dX2_setOfDay_156 (fun _ _ z => False.elim z) (fun v9 ws9 h58 => ?_)
    obtain ⟨r60, rfl, hw9⟩ := h58
    subst ws9
    dsimp only [mPush]
    refine r_iload_n hX dX2_setOfDay_159 rfl rfl ?_
    refine r_iadd hX dX2_setOfDay_160 ?_
    refine r_iconst (v := 1) hX dX2_setOfDay_161 (by decide) ?_
    refine r_isub hX dX2_setOfDay_162 ?_
    refine r_callV hX (c_X2_putDay _ _ _ _ d0 hd0 _) kv_X2_317 0 rfl rfl rfl rfl (Nat.le_of_ble_eq_true rfl) ⟨(Nat.le_of_ble_eq_true rfl), (Nat.le_of_ble_eq_true rfl)⟩ ⟨(Nat.le_of_ble_eq_true rfl), (Nat.le_of_ble_eq_true rfl)⟩ dX2_setOfDay_163 (fun _ _ z => False.elim z) (fun v9 ws9 h61 => ?_)
    obtain ⟨r63, K64, hK64, rfl, hw9⟩ := h61
    subst ws9
    dsimp only [mPush]
    refine r_goto (tgt := 173) hX dX2_setOfDay_166 (by decide) ?_
    exact r_iret hX hE dX2_setOfDay_173 (Nat.le_of_ble_eq_true rfl) (Nat.le_of_ble_eq_true rfl) ⟨_, K64, (hK64.trans rfl), rfl, rfl⟩
theorem dX2_setOfTime_0 : decode cX2_setOfTime 0 = .ok (.iload_n 2, 1) := by decide +kernel
theorem dX2_setOfTime_1 : decode cX2_setOfTime 1 = .ok (.tableswitch 73 4 6 #[27, 43, 59], 27) := by decide +kernel
theorem dX2_setOfTime_28 : decode cX2_setOfTime 28 = .ok (.aload_n 0, 1) := by decide +kernel
theorem dX2_setOfTime_29 : decode cX2_setOfTime 29 = .ok (.aload_n 1, 1) := by decide +kernel
theorem dX2_setOfTime_30 : decode cX2_setOfTime 30 = .ok (.iload_n 3, 1) := by decide +kernel
theorem dX2_setOfTime_31 : decode cX2_setOfTime 31 = .ok (.bipush 23, 2) := by decide +kernel
theorem dX2_setOfTime_33 : decode cX2_setOfTime 33 = .ok (.aload_n 1, 1) := by decide +kernel
theorem dX2_setOfTime_34 : decode cX2_setOfTime 34 = .ok (.invokevirtual 335, 3) := by decide +kernel
theorem dX2_setOfTime_37 : decode cX2_setOfTime 37 = .ok (.ldc2_w 304, 3) := by decide +kernel
theorem dX2_setOfTime_40 : decode cX2_setOfTime 40 = .ok (.invokevirtual 338, 3) := by decide +kernel
theorem dX2_setOfTime_43 : decode cX2_setOfTime 43 = .ok (.ireturn, 1) := by decide +kernel
theorem dX2_setOfTime_44 : decode cX2_setOfTime 44 = .ok (.aload_n 0, 1) := by decide +kernel
theorem dX2_setOfTime_45 : decode cX2_setOfTime 45 = .ok (.aload_n 1, 1) := by decide +kernel
theorem dX2_setOfTime_46 : decode cX2_setOfTime 46 = .ok (.iload_n 3, 1) := by decide +kernel
theorem dX2_setOfTime_47 : decode cX2_setOfTime 47 = .ok (.bipush 59, 2) := by decide +kernel
theorem dX2_setOfTime_49 : decode cX2_setOfTime 49 = .ok (.aload_n 1, 1) := by decide +kernel
theorem dX2_setOfTime_50 : decode cX2_setOfTime 50 = .ok (.invokevirtual 342, 3) := by decide +kernel
theorem dX2_setOfTime_53 : decode cX2_setOfTime 53 = .ok (.ldc2_w 306, 3) := by decide +kernel
theorem dX2_setOfTime_56 : decode cX2_setOfTime 56 = .ok (.invokevirtual 338, 3) := by decide +kernel
theorem dX2_setOfTime_59 : decode cX2_setOfTime 59 = .ok (.ireturn, 1) := by decide +kernel
theorem dX2_setOfTime_60 : decode cX2_setOfTime 60 = .ok (.aload_n 0, 1) := by decide +kernel
theorem dX2_setOfTime_61 : decode cX2_setOfTime 61 = .ok (.aload_n 1, 1) := by decide +kernel
theorem dX2_setOfTime_62 : decode cX2_setOfTime 62 = .ok (.iload_n 3, 1) := by decide +kernel
theorem dX2_setOfTime_63 : decode cX2_setOfTime 63 = .ok (.bipush 59, 2) := by decide +kernel
theorem dX2_setOfTime_65 : decode cX2_setOfTime 65 = .ok (.aload_n 1, 1) := by decide +kernel
theorem dX2_setOfTime_66 : decode cX2_setOfTime 66 = .ok (.invokevirtual 345, 3) := by decide +kernel
theorem dX2_setOfTime_69 : decode cX2_setOfTime 69 = .ok (.lconst 1, 1) := by decide +kernel
theorem dX2_setOfTime_70 : decode cX2_setOfTime 70 = .ok (.invokevirtual 338, 3) := by decide +kernel
theorem dX2_setOfTime_73 : decode cX2_setOfTime 73 = .ok (.ireturn, 1) := by decide +kernel
theorem dX2_setOfTime_74 : decode cX2_setOfTime 74 = .ok (.iload_n 3, 1) := by decide +kernel
theorem dX2_setOfTime_75 : decode cX2_setOfTime 75 = .ok (.i2l, 1) := by decide +kernel
theorem dX2_setOfTime_76 : decode cX2_setOfTime 76 = .ok (.lconst 0, 1) := by decide +kernel
theorem dX2_setOfTime_77 : decode cX2_setOfTime 77 = .ok (.ldc2_w 348, 3) := by decide +kernel
theorem dX2_setOfTime_80 : decode cX2_setOfTime 80 = .ok (.invokestatic 48, 3) := by decide +kernel
theorem dX2_setOfTime_83 : decode cX2_setOfTime 83 = .ok (.ifCond .eq 20, 3) := by decide +kernel
theorem dX2_setOfTime_86 : decode cX2_setOfTime 86 = .ok (.aload_n 0, 1) := by decide +kernel
theorem dX2_setOfTime_87 : decode cX2_setOfTime 87 = .ok (.aload_n 1, 1) := by decide +kernel
theorem dX2_setOfTime_88 : decode cX2_setOfTime 88 = .ok (.aload_n 1, 1) := by decide +kernel
theorem dX2_setOfTime_89 : decode cX2_setOfTime 89 = .ok (.getfield 146, 3) := by decide +kernel
theorem dX2_setOfTime_92 : decode cX2_setOfTime 92 = .ok (.iload_n 3, 1) := by decide +kernel
theorem dX2_setOfTime_93 : decode cX2_setOfTime 93 = .ok (.aload_n 1, 1) := by decide +kernel
theorem dX2_setOfTime_94 : decode cX2_setOfTime 94 = .ok (.getfield 158, 3) := by decide +kernel
theorem dX2_setOfTime_97 : decode cX2_setOfTime 97 = .ok (.invokevirtual 132, 3) := by decide +kernel
theorem dX2_setOfTime_100 : decode cX2_setOfTime 100 = .ok (.goto 7, 3) := by decide +kernel
theorem dX2_setOfTime_103 : decode cX2_setOfTime 103 = .ok (.aload_n 0, 1) := by decide +kernel
theorem dX2_setOfTime_104 : decode cX2_setOfTime 104 = .ok (.invokevirtual 56, 3) := by decide +kernel
theorem dX2_setOfTime_107 : decode cX2_setOfTime 107 = .ok (.ireturn, 1) := by decide +kernel
set_option maxHeartbeats 4000000 in
set_option maxRecDepth 20000 in
theorem c_X2_setOfTime (ad : Nat → Nat) (cs : ClassId × ClassId × ClassId) (K : mK) (rest : va_W) (d0 : Nat) (hd0 : d0 < 9) (p1 : Int32) (p2 : Int32) : mCt (mTy cs) yX2_setOfTime cX2_setOfTime 4 (some .int) ⟨4, 0, 0, 96⟩ [.ref (ad 0), .ref (ad (d0 + 5)), .int p1, .int p2] (mWd ad cs K rest) (mWi ad cs K rest) mNo := by
  refine mCt.of (by decide +kernel) (Nat.le_of_ble_eq_true rfl) (fun X hX hE => ?_)
  have hX : mOK X RX2 cX2_setOfTime 4 ⟨4, 0, 0, 96⟩ [] (mTy cs) := hX
  refine r_iload_n hX dX2_setOfTime_0 rfl rfl ?_
  by_cases s1 : p1.toInt = 4
  · refine r_tableIn (off := 27) (tgt := 28) hX dX2_setOfTime_1 (by omega) (by omega) (by rw [s1]; rfl) (by decide) ?_
    refine r_aload_n hX dX2_setOfTime_28 rfl rfl ?_
    refine r_aload_n hX dX2_setOfTime_29 rfl rfl ?_
    refine r_iload_n hX dX2_setOfTime_30 rfl rfl ?_
    refine r_bipush (v := 23) hX dX2_setOfTime_31 (by decide) ?_
    refine r_aload_n hX dX2_setOfTime_33 rfl rfl ?_
    refine r_callV hX (c_X1_hour _ _ (d0 + 5) _ _ _ _ (mWd_loc hd0)) kv_X2_335 (d0 + 5) (mWd_loc hd0) rfl rfl rfl (Nat.le_of_ble_eq_true rfl) ⟨(Nat.le_of_ble_eq_true rfl), (Nat.le_of_ble_eq_true rfl)⟩ ⟨(Nat.le_of_ble_eq_true rfl), (Nat.le_of_ble_eq_true rfl)⟩ dX2_setOfTime_34 (fun _ _ z => False.elim z) (fun v9 ws9 h2 => ?_)
    obtain ⟨r4, rfl, hw9⟩ := h2
    subst ws9
    dsimp only [mPush]
    refine r_ldc2 hX kc_X2_304 dX2_setOfTime_37 ?_
    refine r_callV hX (c_X2_setPart _ _ _ _ d0 hd0 _ _ _ _) kv_X2_338 0 rfl rfl rfl rfl (Nat.le_of_ble_eq_true rfl) ⟨(Nat.le_of_ble_eq_true rfl), (Nat.le_of_ble_eq_true rfl)⟩ ⟨(Nat.le_of_ble_eq_true rfl), (Nat.le_of_ble_eq_true rfl)⟩ dX2_setOfTime_40 (fun _ _ z => False.elim z) (fun v9 ws9 h5 => ?_)
    obtain ⟨r7, K8, hK8, rfl, hw9⟩ := h5
    subst ws9
    dsimp only [mPush]
    exact r_iret hX hE dX2_setOfTime_43 (Nat.le_of_ble_eq_true rfl) (Nat.le_of_ble_eq_true rfl) ⟨_, K8, (hK8.trans rfl), rfl, rfl⟩
  by_cases s9 : p1.toInt = 5
  · refine r_tableIn (off := 43) (tgt := 44) hX dX2_setOfTime_1 (by omega) (by omega) (by rw [s9]; rfl) (by decide) ?_
    refine r_aload_n hX dX2_setOfTime_44 rfl rfl ?_
    refine r_aload_n hX dX2_setOfTime_45 rfl rfl ?_
    refine r_iload_n hX dX2_setOfTime_46 rfl rfl ?_
    refine r_bipush (v := 59) hX dX2_setOfTime_47 (by decide) ?_
    refine r_aload_n hX dX2_setOfTime_49 rfl rfl ?_
    refine r_callV hX (c_X1_minute _ _ (d0 + 5) _ _ _ _ (mWd_loc hd0)) kv_X2_342 (d0 + 5) (mWd_loc hd0) rfl rfl rfl (Nat.le_of_ble_eq_true rfl) ⟨(Nat.le_of_ble_eq_true rfl), (Nat.le_of_ble_eq_true rfl)⟩ ⟨(Nat.le_of_ble_eq_true rfl), (Nat.le_of_ble_eq_true rfl)⟩ dX2_setOfTime_50 (fun _ _ z => False.elim z) (fun v9 ws9 h10 => ?_)
    obtain ⟨r12, rfl, hw9⟩ := h10
    subst ws9
    dsimp only [mPush]
    refine r_ldc2 hX kc_X2_306 dX2_setOfTime_53 ?_
    refine r_callV hX (c_X2_setPart _ _ _ _ d0 hd0 _ _ _ _) kv_X2_338 0 rfl rfl rfl rfl (Nat.le_of_ble_eq_true rfl) ⟨(Nat.le_of_ble_eq_true rfl), (Nat.le_of_ble_eq_true rfl)⟩ ⟨(Nat.le_of_ble_eq_true rfl), (Nat.le_of_ble_eq_true rfl)⟩ dX2_setOfTime_56 (fun _ _ z => False.elim z) (fun v9 ws9 h13 => ?_)
    obtain ⟨r15, K16, hK16, rfl, hw9⟩ := h13
    subst ws9
    dsimp only [mPush]
    exact r_iret hX hE dX2_setOfTime_59 (Nat.le_of_ble_eq_true rfl) (Nat.le_of_ble_eq_true rfl) ⟨_, K16, (hK16.trans rfl), rfl, rfl⟩
  by_cases s17 : p1.toInt = 6
  · refine r_tableIn (off := 59) (tgt := 60) hX dX2_setOfTime_1 (by omega) (by omega) (by rw [s17]; rfl) (by decide) ?_
    refine r_aload_n hX dX2_setOfTime_60 rfl rfl ?_
    refine r_aload_n hX dX2_setOfTime_61 rfl rfl ?_
    refine r_iload_n hX dX2_setOfTime_62 rfl rfl ?_
    refine r_bipush (v := 59) hX dX2_setOfTime_63 (by decide) ?_
    refine r_aload_n hX dX2_setOfTime_65 rfl rfl ?_
    refine r_callV hX (c_X1_secondOfMinute _ _ (d0 + 5) _ _ _ _ (mWd_loc hd0)) kv_X2_345 (d0 + 5) (mWd_loc hd0) rfl rfl rfl (Nat.le_of_ble_eq_true rfl) ⟨(Nat.le_of_ble_eq_true rfl), (Nat.le_of_ble_eq_true rfl)⟩ ⟨(Nat.le_of_ble_eq_true rfl), (Nat.le_of_ble_eq_true rfl)⟩ dX2_setOfTime_66 (fun _ _ z => False.elim z) (fun v9 ws9 h18 => ?_)
    obtain ⟨r20, rfl, hw9⟩ := h18
    subst ws9
    dsimp only [mPush]
    refine r_lconst (v := 1) hX dX2_setOfTime_69 (by decide) ?_
    refine r_callV hX (c_X2_setPart _ _ _ _ d0 hd0 _ _ _ _) kv_X2_338 0 rfl rfl rfl rfl (Nat.le_of_ble_eq_true rfl) ⟨(Nat.le_of_ble_eq_true rfl), (Nat.le_of_ble_eq_true rfl)⟩ ⟨(Nat.le_of_ble_eq_true rfl), (Nat.le_of_ble_eq_true rfl)⟩ dX2_setOfTime_70 (fun _ _ z => False.elim z) (fun v9 ws9 h21 => ?_)
    obtain ⟨r23, K24, hK24, rfl, hw9⟩ := h21
    subst ws9
    dsimp only [mPush]
    exact r_iret hX hE dX2_setOfTime_73 (Nat.le_of_ble_eq_true rfl) (Nat.le_of_ble_eq_true rfl) ⟨_, K24, (hK24.trans rfl), rfl, rfl⟩
  refine r_tableOut (tgt := 74) hX dX2_setOfTime_1 (by omega) (by decide) ?_
  refine r_iload_n hX dX2_setOfTime_74 rfl rfl ?_
  refine r_i2l hX dX2_setOfTime_75 ?_
  refine r_lconst (v := 0) hX dX2_setOfTime_76 (by decide) ?_
  refine r_ldc2 hX kc_X2_348 dX2_setOfTime_77 ?_
  refine r_callS hX (c_X2_isWithin _ _ _ _ _) ks_X2_48 rfl rfl (Nat.le_of_ble_eq_true rfl) ⟨(Nat.le_of_ble_eq_true rfl), (Nat.le_of_ble_eq_true rfl)⟩ ⟨(Nat.le_of_ble_eq_true rfl), (Nat.le_of_ble_eq_true rfl)⟩ dX2_setOfTime_80 (fun _ _ z => False.elim z) (fun v9 ws9 h25 => ?_)
  obtain ⟨rfl, hw9⟩ := h25
  subst ws9
  dsimp only [mPush]
  refine r_if_eq (tgt := 103) hX dX2_setOfTime_83 (by decide) (fun c27 => ?_) (fun c27 => ?_)
  · refine r_aload_n hX dX2_setOfTime_103 rfl rfl ?_
    refine r_callV hX (c_X2_refused _ _ _ _) kv_X2_56 0 rfl rfl rfl rfl (Nat.le_of_ble_eq_true rfl) ⟨(Nat.le_of_ble_eq_true rfl), (Nat.le_of_ble_eq_true rfl)⟩ ⟨(Nat.le_of_ble_eq_true rfl), (Nat.le_of_ble_eq_true rfl)⟩ dX2_setOfTime_104 (fun _ _ z => False.elim z) (fun v9 ws9 h28 => ?_)
    obtain ⟨r30, K31, hK31, rfl, hw9⟩ := h28
    subst ws9
    dsimp only [mPush]
    exact r_iret hX hE dX2_setOfTime_107 (Nat.le_of_ble_eq_true rfl) (Nat.le_of_ble_eq_true rfl) ⟨_, K31, (hK31.trans rfl), rfl, rfl⟩
  · refine r_aload_n hX dX2_setOfTime_86 rfl rfl ?_
    refine r_aload_n hX dX2_setOfTime_87 rfl rfl ?_
    refine r_aload_n hX dX2_setOfTime_88 rfl rfl ?_
    refine r_getN hX kg_X2_146 (d0 + 5) (mWd_loc hd0) rfl dX2_setOfTime_89 ?_
    refine r_iload_n hX dX2_setOfTime_92 rfl rfl ?_
    refine r_aload_n hX dX2_setOfTime_93 rfl rfl ?_
    refine r_getN hX kg_X2_158 (d0 + 5) (mWd_loc hd0) rfl dX2_setOfTime_94 ?_
    refine r_callV hX (c_X2_putLocal _ _ _ _ d0 hd0 _ _ _) kv_X2_132 0 rfl rfl rfl rfl (Nat.le_of_ble_eq_true rfl) ⟨(Nat.le_of_ble_eq_true rfl), (Nat.le_of_ble_eq_true rfl)⟩ ⟨(Nat.le_of_ble_eq_true rfl), (Nat.le_of_ble_eq_true rfl)⟩ dX2_setOfTime_97 (fun _ _ z => False.elim z) (fun v9 ws9 h32 => ?_)
    obtain ⟨r34, K35, hK35, rfl, hw9⟩ := h32
    subst ws9
    dsimp only [mPush]
    refine r_goto (tgt := 107) hX dX2_setOfTime_100 (by decide) ?_
    exact r_iret hX hE dX2_setOfTime_107 (Nat.le_of_ble_eq_true rfl) (Nat.le_of_ble_eq_true rfl) ⟨_, K35, (hK35.trans rfl), rfl, rfl⟩
theorem dX2_firstDated_0 : decode cX2_firstDated 0 = .ok (.iconst 0, 1) := by decide +kernel
theorem dX2_firstDated_1 : decode cX2_firstDated 1 = .ok (.istore_n 1, 1) := by decide +kernel
theorem dX2_firstDated_2 : decode cX2_firstDated 2 = .ok (.iconst 1, 1) := by decide +kernel
theorem dX2_firstDated_3 : decode cX2_firstDated 3 = .ok (.istore_n 2, 1) := by decide +kernel
theorem dX2_firstDated_4 : decode cX2_firstDated 4 = .ok (.iload_n 2, 1) := by decide +kernel
theorem dX2_firstDated_5 : decode cX2_firstDated 5 = .ok (.aload_n 0, 1) := by decide +kernel
theorem dX2_firstDated_6 : decode cX2_firstDated 6 = .ok (.getfield 20, 3) := by decide +kernel
theorem dX2_firstDated_9 : decode cX2_firstDated 9 = .ok (.arraylength, 1) := by decide +kernel
theorem dX2_firstDated_10 : decode cX2_firstDated 10 = .ok (.if_icmp .ge 33, 3) := by decide +kernel
theorem dX2_firstDated_13 : decode cX2_firstDated 13 = .ok (.aload_n 0, 1) := by decide +kernel
theorem dX2_firstDated_14 : decode cX2_firstDated 14 = .ok (.getfield 20, 3) := by decide +kernel
theorem dX2_firstDated_17 : decode cX2_firstDated 17 = .ok (.iload_n 2, 1) := by decide +kernel
theorem dX2_firstDated_18 : decode cX2_firstDated 18 = .ok (.invokestatic 84, 3) := by decide +kernel
theorem dX2_firstDated_21 : decode cX2_firstDated 21 = .ok (.aload_n 0, 1) := by decide +kernel
theorem dX2_firstDated_22 : decode cX2_firstDated 22 = .ok (.getfield 20, 3) := by decide +kernel
theorem dX2_firstDated_25 : decode cX2_firstDated 25 = .ok (.iload_n 1, 1) := by decide +kernel
theorem dX2_firstDated_26 : decode cX2_firstDated 26 = .ok (.invokestatic 84, 3) := by decide +kernel
theorem dX2_firstDated_29 : decode cX2_firstDated 29 = .ok (.invokevirtual 179, 3) := by decide +kernel
theorem dX2_firstDated_32 : decode cX2_firstDated 32 = .ok (.ifCond .ge 5, 3) := by decide +kernel
theorem dX2_firstDated_35 : decode cX2_firstDated 35 = .ok (.iload_n 2, 1) := by decide +kernel
theorem dX2_firstDated_36 : decode cX2_firstDated 36 = .ok (.istore_n 1, 1) := by decide +kernel
theorem dX2_firstDated_37 : decode cX2_firstDated 37 = .ok (.iinc 2 1, 3) := by decide +kernel
theorem dX2_firstDated_40 : decode cX2_firstDated 40 = .ok (.goto (-36), 3) := by decide +kernel
theorem dX2_firstDated_43 : decode cX2_firstDated 43 = .ok (.iload_n 1, 1) := by decide +kernel
theorem dX2_firstDated_44 : decode cX2_firstDated 44 = .ok (.ireturn, 1) := by decide +kernel
set_option maxHeartbeats 4000000 in
set_option maxRecDepth 20000 in
theorem c_X2_firstDated (ad : Nat → Nat) (cs : ClassId × ClassId × ClassId) (K : mK) (rest : va_W) : mCt (mTy cs) yX2_firstDated cX2_firstDated 3 (some .int) ⟨3, 0, 0, 67⟩ [.ref (ad 0)] (mWd ad cs K rest) (mWi ad cs K rest) mNo := by
  refine mCt.of (by decide +kernel) (Nat.le_of_ble_eq_true rfl) (fun X hX hE => ?_)
  have hX : mOK X RX2 cX2_firstDated 3 ⟨3, 0, 0, 67⟩ [] (mTy cs) := hX
  refine r_iconst (v := 0) hX dX2_firstDated_0 (by decide) ?_
  refine r_istore_n hX dX2_firstDated_1 rfl (by decide) rfl ?_
  refine r_iconst (v := 1) hX dX2_firstDated_2 (by decide) ?_
  refine r_istore_n hX dX2_firstDated_3 rfl (by decide) rfl ?_
  have L4 : ∀ (N4 j1 : Nat) (f2 : Nat), 4 - j1 < N4 → j1 ≤ 4 → f2 < 4 → ∀ K3 : mK, K3.1 = K.1 → mV X 4 [(0, some (.ref (ad 0))), (1, some (.int (nI f2))), (2, some (.int (nI j1)))] [] (mWd ad cs K3 rest) 0 0 := by
    intro N4
    induction N4 with
    | zero => intro j1 f2; omega
    | succ N4 ih4 =>
      intro j1 f2 hN4 hj1e hf2 K3 hK3
      refine r_iload_n hX dX2_firstDated_4 rfl rfl ?_
      refine r_aload_n hX dX2_firstDated_5 rfl rfl ?_
      refine r_get hX kf_X2_20 0 rfl rfl dX2_firstDated_6 ?_
      refine r_alen (v := nI 4) hX 3 2 rfl rfl rfl dX2_firstDated_9 ?_
      refine r_icmp_ge (tgt := 43) hX dX2_firstDated_10 (by decide) (fun c5 => ?_) (fun c5 => ?_)
      · refine r_iload_n hX dX2_firstDated_43 rfl rfl ?_
        exact r_iret hX hE dX2_firstDated_44 (Nat.le_of_ble_eq_true rfl) (Nat.le_of_ble_eq_true rfl) ⟨_, K3, hK3, rfl, rfl⟩
      · have hj1 : j1 < 4 := mlt (by first | rfl | decide) (by decide) hj1e c5
        refine r_aload_n hX dX2_firstDated_13 rfl rfl ?_
        refine r_get hX kf_X2_20 0 rfl rfl dX2_firstDated_14 ?_
        refine r_iload_n hX dX2_firstDated_17 rfl rfl ?_
        refine r_callS hX (c_X2_at_ok ad cs _ 3 _ 4 0 rfl (by decide) j1 hj1) ks_X2_84 rfl rfl (Nat.le_of_ble_eq_true rfl) ⟨(Nat.le_of_ble_eq_true rfl), (Nat.le_of_ble_eq_true rfl)⟩ ⟨(Nat.le_of_ble_eq_true rfl), (Nat.le_of_ble_eq_true rfl)⟩ dX2_firstDated_18 (fun _ _ z => False.elim z) (fun v9 ws9 h6 => ?_)
        obtain ⟨rfl, hw9⟩ := h6
        subst ws9
        dsimp only [mPush]
        refine r_aload_n hX dX2_firstDated_21 rfl rfl ?_
        refine r_get hX kf_X2_20 0 rfl rfl dX2_firstDated_22 ?_
        refine r_iload_n hX dX2_firstDated_25 rfl rfl ?_
        refine r_callS hX (c_X2_at_ok ad cs _ 3 _ 4 0 rfl (by decide) f2 hf2) ks_X2_84 rfl rfl (Nat.le_of_ble_eq_true rfl) ⟨(Nat.le_of_ble_eq_true rfl), (Nat.le_of_ble_eq_true rfl)⟩ ⟨(Nat.le_of_ble_eq_true rfl), (Nat.le_of_ble_eq_true rfl)⟩ dX2_firstDated_26 (fun _ _ z => False.elim z) (fun v9 ws9 h8 => ?_)
        obtain ⟨rfl, hw9⟩ := h8
        subst ws9
        dsimp only [mPush]
        refine r_callV hX (c_X1_orderTo _ _ (j1 + 5) _ _ _ _ (mWd_loc (d := j1) (by omega)) (f2 + 5) _ _ _ _ (mWd_loc (d := f2) (by omega))) kv_X2_179 (j1 + 5) (mWd_loc (d := j1) (by omega)) rfl rfl rfl (Nat.le_of_ble_eq_true rfl) ⟨(Nat.le_of_ble_eq_true rfl), (Nat.le_of_ble_eq_true rfl)⟩ ⟨(Nat.le_of_ble_eq_true rfl), (Nat.le_of_ble_eq_true rfl)⟩ dX2_firstDated_29 (fun _ _ z => False.elim z) (fun v9 ws9 h10 => ?_)
        obtain ⟨r12, rfl, hw9⟩ := h10
        subst ws9
        dsimp only [mPush]
        refine r_if_ge (tgt := 37) hX dX2_firstDated_32 (by decide) (fun c13 => ?_) (fun c13 => ?_)
        · refine r_iinc hX dX2_firstDated_37 rfl (by decide) rfl ?_
          refine r_goto (tgt := 4) hX dX2_firstDated_40 (by decide) ?_
          exact r_loc (k' := 0) (n' := 0) (by exact ⟨rfl, rfl, nI_inc' _, trivial⟩) (by decide) (by decide) (ih4 (j1 + 1) f2 (by omega) (by omega) hf2 _ hK3)
        · refine r_iload_n hX dX2_firstDated_35 rfl rfl ?_
          refine r_istore_n hX dX2_firstDated_36 rfl (by decide) rfl ?_
          refine r_iinc hX dX2_firstDated_37 rfl (by decide) rfl ?_
          refine r_goto (tgt := 4) hX dX2_firstDated_40 (by decide) ?_
          exact r_loc (k' := 0) (n' := 0) (by exact ⟨rfl, rfl, nI_inc' _, trivial⟩) (by decide) (by decide) (ih4 (j1 + 1) j1 (by omega) (by omega) hj1 _ hK3)
  exact r_loc (k' := 0) (n' := 0) (by exact ⟨rfl, rfl, rfl, trivial⟩) (by decide) (by decide) (L4 (4 + 1) 1 0 (by omega) (by omega) (by decide) _ rfl)
