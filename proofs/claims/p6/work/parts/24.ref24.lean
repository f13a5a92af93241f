/-! The reference, its contracts (rows by a program of this repository). -/
theorem dX4_become_0 : decode cX4_become 0 = .ok (.lload_n 2, 1) := by decide +kernel
theorem dX4_become_1 : decode cX4_become 1 = .ok (.ldc2_w 96, 3) := by decide +kernel
theorem dX4_become_4 : decode cX4_become 4 = .ok (.invokestatic 92, 3) := by decide +kernel
theorem dX4_become_7 : decode cX4_become 7 = .ok (.ldc2_w 98, 3) := by decide +kernel
theorem dX4_become_10 : decode cX4_become 10 = .ok (.ldc2_w 100, 3) := by decide +kernel
theorem dX4_become_13 : decode cX4_become 13 = .ok (.invokestatic 38, 3) := by decide +kernel
theorem dX4_become_16 : decode cX4_become 16 = .ok (.ifCond .ne 8, 3) := by decide +kernel
theorem dX4_become_19 : decode cX4_become 19 = .ok (.aload_n 0, 1) := by decide +kernel
theorem dX4_become_20 : decode cX4_become 20 = .ok (.invokevirtual 80, 3) := by decide +kernel
theorem dX4_become_23 : decode cX4_become 23 = .ok (.ireturn, 1) := by decide +kernel
theorem dX4_become_24 : decode cX4_become 24 = .ok (.aload_n 0, 1) := by decide +kernel
theorem dX4_become_25 : decode cX4_become 25 = .ok (.getfield 13, 3) := by decide +kernel
theorem dX4_become_28 : decode cX4_become 28 = .ok (.iload_n 1, 1) := by decide +kernel
theorem dX4_become_29 : decode cX4_become 29 = .ok (.lload_n 2, 1) := by decide +kernel
theorem dX4_become_30 : decode cX4_become 30 = .ok (.lastore, 1) := by decide +kernel
theorem dX4_become_31 : decode cX4_become 31 = .ok (.lload_n 2, 1) := by decide +kernel
theorem dX4_become_32 : decode cX4_become 32 = .ok (.ldc2_w 96, 3) := by decide +kernel
theorem dX4_become_35 : decode cX4_become 35 = .ok (.invokestatic 102, 3) := by decide +kernel
theorem dX4_become_38 : decode cX4_become 38 = .ok (.ireturn, 1) := by decide +kernel
set_option maxHeartbeats 4000000 in
set_option maxRecDepth 20000 in
theorem c_X4_become (ad ae : Nat → Nat) (cs : ClassId × ClassId × ClassId) (K : mK) (J : mJ) (rest : va_W) (hJ : mWF J) (j0 : Nat) (hj0 : j0 < 4) (p1 : Int64) : mCt (mTy cs) yX4_become cX4_become 4 (some .int) ⟨2, 0, 0, 46⟩ [.ref (ae 0), .int (nI j0), .long p1] (mRw ad ae cs K J rest) (mZi ad ae cs K J rest) mNo := by
  refine mCt.of (by decide +kernel) (Nat.le_of_ble_eq_true rfl) (fun X hX hE => ?_)
  have hX : mOK X RX4 cX4_become 4 ⟨2, 0, 0, 46⟩ [] (mTy cs) := hX
  refine r_lload_n hX dX4_become_0 rfl rfl ?_
  refine r_ldc2 hX kc_X4_96 dX4_become_1 ?_
  refine r_callS hX (c_X4_whole _ _ _ _ (by decide)) ks_X4_92 rfl rfl (Nat.le_of_ble_eq_true rfl) ⟨(Nat.le_of_ble_eq_true rfl), (Nat.le_of_ble_eq_true rfl)⟩ ⟨(Nat.le_of_ble_eq_true rfl), (Nat.le_of_ble_eq_true rfl)⟩ dX4_become_4 (fun _ _ z => False.elim z) (fun v9 ws9 h1 => ?_)
  obtain ⟨r3, rfl, hw9⟩ := h1
  subst ws9
  dsimp only [mPush]
  refine r_ldc2 hX kc_X4_98 dX4_become_7 ?_
  refine r_ldc2 hX kc_X4_100 dX4_become_10 ?_
  refine r_callS hX (c_X4_isIn _ _ _ _ _) ks_X4_38 rfl rfl (Nat.le_of_ble_eq_true rfl) ⟨(Nat.le_of_ble_eq_true rfl), (Nat.le_of_ble_eq_true rfl)⟩ ⟨(Nat.le_of_ble_eq_true rfl), (Nat.le_of_ble_eq_true rfl)⟩ dX4_become_13 (fun _ _ z => False.elim z) (fun v9 ws9 h4 => ?_)
  obtain ⟨rfl, hw9⟩ := h4
  subst ws9
  dsimp only [mPush]
  refine r_if_ne (tgt := 24) hX dX4_become_16 (by decide) (fun c6 => ?_) (fun c6 => ?_)
  · refine r_aload_n hX dX4_become_24 rfl rfl ?_
    refine r_get hX kf_X4_13 14 rfl rfl dX4_become_25 ?_
    refine r_iload_n hX dX4_become_28 rfl rfl ?_
    refine r_lload_n hX dX4_become_29 rfl rfl ?_
    refine r_last hX 16 1 rfl rfl (vp_in_nI hj0 (by decide)) dX4_become_30 ?_
    refine r_eqw (ws' := mRw ad ae cs K (J.1, J.2.1, vp_updL J.2.2.1 ((nI j0)).toNatClampNeg p1, J.2.2.2.1, J.2.2.2.2.1, J.2.2.2.2.2.1, J.2.2.2.2.2.2) rest) rfl ?_
    refine r_lload_n hX dX4_become_31 rfl rfl ?_
    refine r_ldc2 hX kc_X4_96 dX4_become_32 ?_
    refine r_callS hX (c_X4_rest _ _ _ _ (by decide)) ks_X4_102 rfl rfl (Nat.le_of_ble_eq_true rfl) ⟨(Nat.le_of_ble_eq_true rfl), (Nat.le_of_ble_eq_true rfl)⟩ ⟨(Nat.le_of_ble_eq_true rfl), (Nat.le_of_ble_eq_true rfl)⟩ dX4_become_35 (fun _ _ z => False.elim z) (fun v9 ws9 h7 => ?_)
    obtain ⟨r9, rfl, hw9⟩ := h7
    subst ws9
    dsimp only [mPush]
    exact r_iret hX hE dX4_become_38 (Nat.le_of_ble_eq_true rfl) (Nat.le_of_ble_eq_true rfl) ⟨_, (J.1, J.2.1, vp_updL J.2.2.1 ((nI j0)).toNatClampNeg p1, J.2.2.2.1, J.2.2.2.2.1, J.2.2.2.2.2.1, J.2.2.2.2.2.2), hJ, rfl, rfl, rfl⟩
  · refine r_aload_n hX dX4_become_19 rfl rfl ?_
    refine r_callV hX (c_X4_no _ _ _ _ _ _) kv_X4_80 14 rfl rfl rfl rfl (Nat.le_of_ble_eq_true rfl) ⟨(Nat.le_of_ble_eq_true rfl), (Nat.le_of_ble_eq_true rfl)⟩ ⟨(Nat.le_of_ble_eq_true rfl), (Nat.le_of_ble_eq_true rfl)⟩ dX4_become_20 (fun _ _ z => False.elim z) (fun v9 ws9 h10 => ?_)
    obtain ⟨J12, etJ12, eJ12, rfl, hw9⟩ := h10
    subst ws9
    dsimp only [mPush]
    exact r_iret hX hE dX4_become_23 (Nat.le_of_ble_eq_true rfl) (Nat.le_of_ble_eq_true rfl) ⟨_, J12, (mWF2 eJ12 hJ), ((congrArg Prod.fst eJ12).trans rfl), rfl, rfl⟩
theorem dX4_moment_0 : decode cX4_moment 0 = .ok (.aload_n 0, 1) := by decide +kernel
theorem dX4_moment_1 : decode cX4_moment 1 = .ok (.iload_n 1, 1) := by decide +kernel
theorem dX4_moment_2 : decode cX4_moment 2 = .ok (.invokestatic 61, 3) := by decide +kernel
theorem dX4_moment_5 : decode cX4_moment 5 = .ok (.iconst 0, 1) := by decide +kernel
theorem dX4_moment_6 : decode cX4_moment 6 = .ok (.invokevirtual 68, 3) := by decide +kernel
theorem dX4_moment_9 : decode cX4_moment 9 = .ok (.ifCond .eq 7, 3) := by decide +kernel
theorem dX4_moment_12 : decode cX4_moment 12 = .ok (.iconst 0, 1) := by decide +kernel
theorem dX4_moment_13 : decode cX4_moment 13 = .ok (.goto 17, 3) := by decide +kernel
theorem dX4_moment_16 : decode cX4_moment 16 = .ok (.aload_n 0, 1) := by decide +kernel
theorem dX4_moment_17 : decode cX4_moment 17 = .ok (.iload_n 1, 1) := by decide +kernel
theorem dX4_moment_18 : decode cX4_moment 18 = .ok (.iload_n 2, 1) := by decide +kernel
theorem dX4_moment_19 : decode cX4_moment 19 = .ok (.i2l, 1) := by decide +kernel
theorem dX4_moment_20 : decode cX4_moment 20 = .ok (.ldc2_w 96, 3) := by decide +kernel
theorem dX4_moment_23 : decode cX4_moment 23 = .ok (.lmul, 1) := by decide +kernel
theorem dX4_moment_24 : decode cX4_moment 24 = .ok (.iload_n 3, 1) := by decide +kernel
theorem dX4_moment_25 : decode cX4_moment 25 = .ok (.i2l, 1) := by decide +kernel
theorem dX4_moment_26 : decode cX4_moment 26 = .ok (.ladd, 1) := by decide +kernel
theorem dX4_moment_27 : decode cX4_moment 27 = .ok (.invokevirtual 105, 3) := by decide +kernel
theorem dX4_moment_30 : decode cX4_moment 30 = .ok (.ireturn, 1) := by decide +kernel
set_option maxHeartbeats 4000000 in
set_option maxRecDepth 20000 in
theorem c_X4_moment (ad ae : Nat → Nat) (cs : ClassId × ClassId × ClassId) (K : mK) (J : mJ) (rest : va_W) (hJ : mWF J) (p0 : Int32) (p1 : Int32) (p2 : Int32) : mCt (mTy cs) yX4_moment cX4_moment 4 (some .int) ⟨3, 0, 0, 69⟩ [.ref (ae 0), .int p0, .int p1, .int p2] (mRw ad ae cs K J rest) (mZi ad ae cs K J rest) mNo := by
  refine mCt.of (by decide +kernel) (Nat.le_of_ble_eq_true rfl) (fun X hX hE => ?_)
  have hX : mOK X RX4 cX4_moment 4 ⟨3, 0, 0, 69⟩ [] (mTy cs) := hX
  refine r_aload_n hX dX4_moment_0 rfl rfl ?_
  refine r_iload_n hX dX4_moment_1 rfl rfl ?_
  refine r_callS hX (c_X4_isNone _ _ _) ks_X4_61 rfl rfl (Nat.le_of_ble_eq_true rfl) ⟨(Nat.le_of_ble_eq_true rfl), (Nat.le_of_ble_eq_true rfl)⟩ ⟨(Nat.le_of_ble_eq_true rfl), (Nat.le_of_ble_eq_true rfl)⟩ dX4_moment_2 (fun _ _ z => False.elim z) (fun v9 ws9 h1 => ?_)
  obtain ⟨r3, nr3, rfl, hw9⟩ := h1
  subst ws9
  dsimp only [mPush]
  refine r_iconst (v := 0) hX dX4_moment_5 (by decide) ?_
  refine r_callV hX (c_X4_isStopped _ _ _ _ _ _ _ _) kv_X4_68 14 rfl rfl rfl rfl (Nat.le_of_ble_eq_true rfl) ⟨(Nat.le_of_ble_eq_true rfl), (Nat.le_of_ble_eq_true rfl)⟩ ⟨(Nat.le_of_ble_eq_true rfl), (Nat.le_of_ble_eq_true rfl)⟩ dX4_moment_6 (fun _ _ z => False.elim z) (fun v9 ws9 h4 => ?_)
  obtain ⟨r6, J7, nr6, etJ7, erJ7, eJ7, rfl, hw9⟩ := h4
  subst ws9
  dsimp only [mPush]
  refine r_if_eq (tgt := 16) hX dX4_moment_9 (by decide) (fun c8 => ?_) (fun c8 => ?_)
  · have hs9 := mnone0 nr6 (by first | exact c8 | exact Classical.not_not.mp c8)
    obtain ⟨i10, hhi10, rfl⟩ := mnone0 nr3 hs9.1
    refine r_aload_n hX dX4_moment_16 rfl rfl ?_
    refine r_iload_n hX dX4_moment_17 rfl rfl ?_
    refine r_iload_n hX dX4_moment_18 rfl rfl ?_
    refine r_i2l hX dX4_moment_19 ?_
    refine r_ldc2 hX kc_X4_96 dX4_moment_20 ?_
    refine r_lmul hX dX4_moment_23 ?_
    refine r_iload_n hX dX4_moment_24 rfl rfl ?_
    refine r_i2l hX dX4_moment_25 ?_
    refine r_ladd hX dX4_moment_26 ?_
    refine r_callV hX (c_X4_become _ _ _ _ J7 _ (mWF2 eJ7 hJ) i10 hhi10 _) kv_X4_105 14 rfl rfl rfl rfl (Nat.le_of_ble_eq_true rfl) ⟨(Nat.le_of_ble_eq_true rfl), (Nat.le_of_ble_eq_true rfl)⟩ ⟨(Nat.le_of_ble_eq_true rfl), (Nat.le_of_ble_eq_true rfl)⟩ dX4_moment_27 (fun _ _ z => False.elim z) (fun v9 ws9 h11 => ?_)
    obtain ⟨r13, J14, hJ14, oJ14, rfl, hw9⟩ := h11
    subst ws9
    dsimp only [mPush]
    exact r_iret hX hE dX4_moment_30 (Nat.le_of_ble_eq_true rfl) (Nat.le_of_ble_eq_true rfl) ⟨_, J14, hJ14, (oJ14.trans ((congrArg Prod.fst eJ7).trans rfl)), rfl, rfl⟩
  · refine r_iconst (v := 0) hX dX4_moment_12 (by decide) ?_
    refine r_goto (tgt := 30) hX dX4_moment_13 (by decide) ?_
    exact r_iret hX hE dX4_moment_30 (Nat.le_of_ble_eq_true rfl) (Nat.le_of_ble_eq_true rfl) ⟨_, J7, (mWF2 eJ7 hJ), ((congrArg Prod.fst eJ7).trans rfl), rfl, rfl⟩
theorem dX4_milli_0 : decode cX4_milli 0 = .ok (.aload_n 0, 1) := by decide +kernel
theorem dX4_milli_1 : decode cX4_milli 1 = .ok (.iload_n 1, 1) := by decide +kernel
theorem dX4_milli_2 : decode cX4_milli 2 = .ok (.invokestatic 61, 3) := by decide +kernel
theorem dX4_milli_5 : decode cX4_milli 5 = .ok (.iconst 0, 1) := by decide +kernel
theorem dX4_milli_6 : decode cX4_milli 6 = .ok (.invokevirtual 68, 3) := by decide +kernel
theorem dX4_milli_9 : decode cX4_milli 9 = .ok (.ifCond .eq 7, 3) := by decide +kernel
theorem dX4_milli_12 : decode cX4_milli 12 = .ok (.iconst 0, 1) := by decide +kernel
theorem dX4_milli_13 : decode cX4_milli 13 = .ok (.goto 21, 3) := by decide +kernel
theorem dX4_milli_16 : decode cX4_milli 16 = .ok (.aload_n 0, 1) := by decide +kernel
theorem dX4_milli_17 : decode cX4_milli 17 = .ok (.iload_n 1, 1) := by decide +kernel
theorem dX4_milli_18 : decode cX4_milli 18 = .ok (.iload_n 2, 1) := by decide +kernel
theorem dX4_milli_19 : decode cX4_milli 19 = .ok (.i2l, 1) := by decide +kernel
theorem dX4_milli_20 : decode cX4_milli 20 = .ok (.ldc2_w 109, 3) := by decide +kernel
theorem dX4_milli_23 : decode cX4_milli 23 = .ok (.lmul, 1) := by decide +kernel
theorem dX4_milli_24 : decode cX4_milli 24 = .ok (.iload_n 3, 1) := by decide +kernel
theorem dX4_milli_25 : decode cX4_milli 25 = .ok (.i2l, 1) := by decide +kernel
theorem dX4_milli_26 : decode cX4_milli 26 = .ok (.ladd, 1) := by decide +kernel
theorem dX4_milli_27 : decode cX4_milli 27 = .ok (.ldc2_w 111, 3) := by decide +kernel
theorem dX4_milli_30 : decode cX4_milli 30 = .ok (.lmul, 1) := by decide +kernel
theorem dX4_milli_31 : decode cX4_milli 31 = .ok (.invokevirtual 105, 3) := by decide +kernel
theorem dX4_milli_34 : decode cX4_milli 34 = .ok (.ireturn, 1) := by decide +kernel
set_option maxHeartbeats 4000000 in
set_option maxRecDepth 20000 in
theorem c_X4_milli (ad ae : Nat → Nat) (cs : ClassId × ClassId × ClassId) (K : mK) (J : mJ) (rest : va_W) (hJ : mWF J) (p0 : Int32) (p1 : Int32) (p2 : Int32) : mCt (mTy cs) yX4_milli cX4_milli 4 (some .int) ⟨3, 0, 0, 69⟩ [.ref (ae 0), .int p0, .int p1, .int p2] (mRw ad ae cs K J rest) (mZi ad ae cs K J rest) mNo := by
  refine mCt.of (by decide +kernel) (Nat.le_of_ble_eq_true rfl) (fun X hX hE => ?_)
  have hX : mOK X RX4 cX4_milli 4 ⟨3, 0, 0, 69⟩ [] (mTy cs) := hX
  refine r_aload_n hX dX4_milli_0 rfl rfl ?_
  refine r_iload_n hX dX4_milli_1 rfl rfl ?_
  refine r_callS hX (c_X4_isNone _ _ _) ks_X4_61 rfl rfl (Nat.le_of_ble_eq_true rfl) ⟨(Nat.le_of_ble_eq_true rfl), (Nat.le_of_ble_eq_true rfl)⟩ ⟨(Nat.le_of_ble_eq_true rfl), (Nat.le_of_ble_eq_true rfl)⟩ dX4_milli_2 (fun _ _ z => False.elim z) (fun v9 ws9 h1 => ?_)
  obtain ⟨r3, nr3, rfl, hw9⟩ := h1
  subst ws9
  dsimp only [mPush]
  refine r_iconst (v := 0) hX dX4_milli_5 (by decide) ?_
  refine r_callV hX (c_X4_isStopped _ _ _ _ _ _ _ _) kv_X4_68 14 rfl rfl rfl rfl (Nat.le_of_ble_eq_true rfl) ⟨(Nat.le_of_ble_eq_true rfl), (Nat.le_of_ble_eq_true rfl)⟩ ⟨(Nat.le_of_ble_eq_true rfl), (Nat.le_of_ble_eq_true rfl)⟩ dX4_milli_6 (fun _ _ z => False.elim z) (fun v9 ws9 h4 => ?_)
  obtain ⟨r6, J7, nr6, etJ7, erJ7, eJ7, rfl, hw9⟩ := h4
  subst ws9
  dsimp only [mPush]
  refine r_if_eq (tgt := 16) hX dX4_milli_9 (by decide) (fun c8 => ?_) (fun c8 => ?_)
  · have hs9 := mnone0 nr6 (by first | exact c8 | exact Classical.not_not.mp c8)
    obtain ⟨i10, hhi10, rfl⟩ := mnone0 nr3 hs9.1
    refine r_aload_n hX dX4_milli_16 rfl rfl ?_
    refine r_iload_n hX dX4_milli_17 rfl rfl ?_
    refine r_iload_n hX dX4_milli_18 rfl rfl ?_
    refine r_i2l hX dX4_milli_19 ?_
    refine r_ldc2 hX kc_X4_109 dX4_milli_20 ?_
    refine r_lmul hX dX4_milli_23 ?_
    refine r_iload_n hX dX4_milli_24 rfl rfl ?_
    refine r_i2l hX dX4_milli_25 ?_
    refine r_ladd hX dX4_milli_26 ?_
    refine r_ldc2 hX kc_X4_111 dX4_milli_27 ?_
    refine r_lmul hX dX4_milli_30 ?_
    refine r_callV hX (c_X4_become _ _ _ _ J7 _ (mWF2 eJ7 hJ) i10 hhi10 _) kv_X4_105 14 rfl rfl rfl rfl (Nat.le_of_ble_eq_true rfl) ⟨(Nat.le_of_ble_eq_true rfl), (Nat.le_of_ble_eq_true rfl)⟩ ⟨(Nat.le_of_ble_eq_true rfl), (Nat.le_of_ble_eq_true rfl)⟩ dX4_milli_31 (fun _ _ z => False.elim z) (fun v9 ws9 h11 => ?_)
    obtain ⟨r13, J14, hJ14, oJ14, rfl, hw9⟩ := h11
    subst ws9
    dsimp only [mPush]
    exact r_iret hX hE dX4_milli_34 (Nat.le_of_ble_eq_true rfl) (Nat.le_of_ble_eq_true rfl) ⟨_, J14, hJ14, (oJ14.trans ((congrArg Prod.fst eJ7).trans rfl)), rfl, rfl⟩
  · refine r_iconst (v := 0) hX dX4_milli_12 (by decide) ?_
    refine r_goto (tgt := 34) hX dX4_milli_13 (by decide) ?_
    exact r_iret hX hE dX4_milli_34 (Nat.le_of_ble_eq_true rfl) (Nat.le_of_ble_eq_true rfl) ⟨_, J7, (mWF2 eJ7 hJ), ((congrArg Prod.fst eJ7).trans rfl), rfl, rfl⟩
theorem dX4_move_0 : decode cX4_move 0 = .ok (.aload_n 0, 1) := by decide +kernel
theorem dX4_move_1 : decode cX4_move 1 = .ok (.iload_n 1, 1) := by decide +kernel
theorem dX4_move_2 : decode cX4_move 2 = .ok (.invokestatic 61, 3) := by decide +kernel
theorem dX4_move_5 : decode cX4_move 5 = .ok (.iload_n 2, 1) := by decide +kernel
theorem dX4_move_6 : decode cX4_move 6 = .ok (.i2l, 1) := by decide +kernel
theorem dX4_move_7 : decode cX4_move 7 = .ok (.lconst 0, 1) := by decide +kernel
theorem dX4_move_8 : decode cX4_move 8 = .ok (.ldc2_w 42, 3) := by decide +kernel
theorem dX4_move_11 : decode cX4_move 11 = .ok (.invokestatic 38, 3) := by decide +kernel
theorem dX4_move_14 : decode cX4_move 14 = .ok (.ifCond .ne 7, 3) := by decide +kernel
theorem dX4_move_17 : decode cX4_move 17 = .ok (.iconst 1, 1) := by decide +kernel
theorem dX4_move_18 : decode cX4_move 18 = .ok (.goto 4, 3) := by decide +kernel
theorem dX4_move_21 : decode cX4_move 21 = .ok (.iconst 0, 1) := by decide +kernel
theorem dX4_move_22 : decode cX4_move 22 = .ok (.invokevirtual 68, 3) := by decide +kernel
theorem dX4_move_25 : decode cX4_move 25 = .ok (.ifCond .eq 5, 3) := by decide +kernel
theorem dX4_move_28 : decode cX4_move 28 = .ok (.iconst 0, 1) := by decide +kernel
theorem dX4_move_29 : decode cX4_move 29 = .ok (.ireturn, 1) := by decide +kernel
theorem dX4_move_30 : decode cX4_move 30 = .ok (.iload 4, 2) := by decide +kernel
theorem dX4_move_32 : decode cX4_move 32 = .ok (.ifCond .eq 9, 3) := by decide +kernel
theorem dX4_move_35 : decode cX4_move 35 = .ok (.iload_n 3, 1) := by decide +kernel
theorem dX4_move_36 : decode cX4_move 36 = .ok (.i2l, 1) := by decide +kernel
theorem dX4_move_37 : decode cX4_move 37 = .ok (.lneg, 1) := by decide +kernel
theorem dX4_move_38 : decode cX4_move 38 = .ok (.goto 5, 3) := by decide +kernel
theorem dX4_move_41 : decode cX4_move 41 = .ok (.iload_n 3, 1) := by decide +kernel
theorem dX4_move_42 : decode cX4_move 42 = .ok (.i2l, 1) := by decide +kernel
theorem dX4_move_43 : decode cX4_move 43 = .ok (.iload_n 2, 1) := by decide +kernel
theorem dX4_move_44 : decode cX4_move 44 = .ok (.ifCond .ne 9, 3) := by decide +kernel
theorem dX4_move_47 : decode cX4_move 47 = .ok (.ldc2_w 96, 3) := by decide +kernel
theorem dX4_move_50 : decode cX4_move 50 = .ok (.goto 15, 3) := by decide +kernel
theorem dX4_move_53 : decode cX4_move 53 = .ok (.iload_n 2, 1) := by decide +kernel
theorem dX4_move_54 : decode cX4_move 54 = .ok (.iconst 1, 1) := by decide +kernel
theorem dX4_move_55 : decode cX4_move 55 = .ok (.if_icmp .ne 9, 3) := by decide +kernel
theorem dX4_move_58 : decode cX4_move 58 = .ok (.ldc2_w 111, 3) := by decide +kernel
theorem dX4_move_61 : decode cX4_move 61 = .ok (.goto 4, 3) := by decide +kernel
theorem dX4_move_64 : decode cX4_move 64 = .ok (.lconst 1, 1) := by decide +kernel
theorem dX4_move_65 : decode cX4_move 65 = .ok (.lmul, 1) := by decide +kernel
theorem dX4_move_66 : decode cX4_move 66 = .ok (.lstore 5, 2) := by decide +kernel
theorem dX4_move_68 : decode cX4_move 68 = .ok (.aload_n 0, 1) := by decide +kernel
theorem dX4_move_69 : decode cX4_move 69 = .ok (.iload_n 1, 1) := by decide +kernel
theorem dX4_move_70 : decode cX4_move 70 = .ok (.aload_n 0, 1) := by decide +kernel
theorem dX4_move_71 : decode cX4_move 71 = .ok (.getfield 13, 3) := by decide +kernel
theorem dX4_move_74 : decode cX4_move 74 = .ok (.iload_n 1, 1) := by decide +kernel
theorem dX4_move_75 : decode cX4_move 75 = .ok (.laload, 1) := by decide +kernel
theorem dX4_move_76 : decode cX4_move 76 = .ok (.lload 5, 2) := by decide +kernel
theorem dX4_move_78 : decode cX4_move 78 = .ok (.ladd, 1) := by decide +kernel
theorem dX4_move_79 : decode cX4_move 79 = .ok (.invokevirtual 105, 3) := by decide +kernel
theorem dX4_move_82 : decode cX4_move 82 = .ok (.ireturn, 1) := by decide +kernel
set_option maxHeartbeats 4000000 in
set_option maxRecDepth 20000 in
theorem c_X4_move (ad ae : Nat → Nat) (cs : ClassId × ClassId × ClassId) (K : mK) (J : mJ) (rest : va_W) (hJ : mWF J) (p0 : Int32) (p1 : Int32) (p2 : Int32) (p3 : Int32) : mCt (mTy cs) yX4_move cX4_move 7 (some .int) ⟨3, 0, 0, 69⟩ [.ref (ae 0), .int p0, .int p1, .int p2, .int p3] (mRw ad ae cs K J rest) (mZi ad ae cs K J rest) mNo := by
  refine mCt.of (by decide +kernel) (Nat.le_of_ble_eq_true rfl) (fun X hX hE => ?_)
  have hX : mOK X RX4 cX4_move 7 ⟨3, 0, 0, 69⟩ [] (mTy cs) := hX
  refine r_aload_n hX dX4_move_0 rfl rfl ?_
  refine r_iload_n hX dX4_move_1 rfl rfl ?_
  refine r_callS hX (c_X4_isNone _ _ _) ks_X4_61 rfl rfl (Nat.le_of_ble_eq_true rfl) ⟨(Nat.le_of_ble_eq_true rfl), (Nat.le_of_ble_eq_true rfl)⟩ ⟨(Nat.le_of_ble_eq_true rfl), (Nat.le_of_ble_eq_true rfl)⟩ dX4_move_2 (fun _ _ z => False.elim z) (fun v9 ws9 h1 => ?_)
  obtain ⟨r3, nr3, rfl, hw9⟩ := h1
  subst ws9
  dsimp only [mPush]
  refine r_iload_n hX dX4_move_5 rfl rfl ?_
  refine r_i2l hX dX4_move_6 ?_
  refine r_lconst (v := 0) hX dX4_move_7 (by decide) ?_
  refine r_ldc2 hX kc_X4_42 dX4_move_8 ?_
  refine r_callS hX (c_X4_isIn _ _ _ _ _) ks_X4_38 rfl rfl (Nat.le_of_ble_eq_true rfl) ⟨(Nat.le_of_ble_eq_true rfl), (Nat.le_of_ble_eq_true rfl)⟩ ⟨(Nat.le_of_ble_eq_true rfl), (Nat.le_of_ble_eq_true rfl)⟩ dX4_move_11 (fun _ _ z => False.elim z) (fun v9 ws9 h4 => ?_)
  obtain ⟨rfl, hw9⟩ := h4
  subst ws9
  dsimp only [mPush]
  refine r_if_ne (tgt := 21) hX dX4_move_14 (by decide) (fun c6 => ?_) (fun c6 => ?_)
  · obtain ⟨i7, li7, hhi7, rfl⟩ := fwin 0 2 (by decide) (by decide) (by decide) (by decide) c6
    refine r_iconst (v := 0) hX dX4_move_21 (by decide) ?_
    refine r_callV hX (c_X4_isStopped _ _ _ _ _ _ _ _) kv_X4_68 14 rfl rfl rfl rfl (Nat.le_of_ble_eq_true rfl) ⟨(Nat.le_of_ble_eq_true rfl), (Nat.le_of_ble_eq_true rfl)⟩ ⟨(Nat.le_of_ble_eq_true rfl), (Nat.le_of_ble_eq_true rfl)⟩ dX4_move_22 (fun _ _ z => False.elim z) (fun v9 ws9 h8 => ?_)
    obtain ⟨r10, J11, nr10, etJ11, erJ11, eJ11, rfl, hw9⟩ := h8
    subst ws9
    dsimp only [mPush]
    refine r_if_eq (tgt := 30) hX dX4_move_25 (by decide) (fun c12 => ?_) (fun c12 => ?_)
    · have hs13 := mnone0 nr10 (by first | exact c12 | exact Classical.not_not.mp c12)
      obtain ⟨i14, hhi14, rfl⟩ := mnone0 nr3 hs13.1
      refine r_iload hX dX4_move_30 rfl ?_
      refine r_if_eq (tgt := 41) hX dX4_move_32 (by decide) (fun c15 => ?_) (fun c15 => ?_)
      · refine r_iload_n hX dX4_move_41 rfl rfl ?_
        refine r_i2l hX dX4_move_42 ?_
        refine r_iload_n hX dX4_move_43 rfl rfl ?_
        refine r_if_ne (tgt := 53) hX dX4_move_44 (by decide) (fun c16 => ?_) (fun c16 => ?_)
        · refine r_iload_n hX dX4_move_53 rfl rfl ?_
          refine r_iconst (v := 1) hX dX4_move_54 (by decide) ?_
          refine r_icmp_ne (tgt := 64) hX dX4_move_55 (by decide) (fun c17 => ?_) (fun c17 => ?_)
          · refine r_lconst (v := 1) hX dX4_move_64 (by decide) ?_
            refine r_lmul hX dX4_move_65 ?_
            refine r_lstore hX dX4_move_66 (by decide) rfl ?_
            refine r_aload_n hX dX4_move_68 rfl rfl ?_
            refine r_iload_n hX dX4_move_69 rfl rfl ?_
            refine r_aload_n hX dX4_move_70 rfl rfl ?_
            refine r_get hX kf_X4_13 14 rfl rfl dX4_move_71 ?_
            refine r_iload_n hX dX4_move_74 rfl rfl ?_
            refine r_lald hX 16 1 rfl rfl (vp_in_nI hhi14 (by decide)) dX4_move_75 ?_
            refine r_lload hX dX4_move_76 rfl ?_
            refine r_ladd hX dX4_move_78 ?_
            refine r_callV hX (c_X4_become _ _ _ _ J11 _ (mWF2 eJ11 hJ) i14 hhi14 _) kv_X4_105 14 rfl rfl rfl rfl (Nat.le_of_ble_eq_true rfl) ⟨(Nat.le_of_ble_eq_true rfl), (Nat.le_of_ble_eq_true rfl)⟩ ⟨(Nat.le_of_ble_eq_true rfl), (Nat.le_of_ble_eq_true rfl)⟩ dX4_move_79 (fun _ _ z => False.elim z) (fun v9 ws9 h18 => ?_)
            obtain ⟨r20, J21, hJ21, oJ21, rfl, hw9⟩ := h18
            subst ws9
            dsimp only [mPush]
            exact r_iret hX hE dX4_move_82 (Nat.le_of_ble_eq_true rfl) (Nat.le_of_ble_eq_true rfl) ⟨_, J21, hJ21, (oJ21.trans ((congrArg Prod.fst eJ11).trans rfl)), rfl, rfl⟩
          · refine r_ldc2 hX kc_X4_111 dX4_move_58 ?_
            refine r_goto (tgt := 65) hX dX4_move_61 (by decide) ?_
            refine r_lmul hX dX4_move_65 ?_
            refine r_lstore hX dX4_move_66 (by decide) rfl ?_
            refine r_aload_n hX dX4_move_68 rfl rfl ?_
            refine r_iload_n hX dX4_move_69 rfl rfl ?_
            refine r_aload_n hX dX4_move_70 rfl rfl ?_
            refine r_get hX kf_X4_13 14 rfl rfl dX4_move_71 ?_
            refine r_iload_n hX dX4_move_74 rfl rfl ?_
            refine r_lald hX 16 1 rfl rfl (vp_in_nI hhi14 (by decide)) dX4_move_75 ?_
            refine r_lload hX dX4_move_76 rfl ?_
            refine r_ladd hX dX4_move_78 ?_
            refine r_callV hX (c_X4_become _ _ _ _ J11 _ (mWF2 eJ11 hJ) i14 hhi14 _) kv_X4_105 14 rfl rfl rfl rfl (Nat.le_of_ble_eq_true rfl) ⟨(Nat.le_of_ble_eq_true rfl), (Nat.le_of_ble_eq_true rfl)⟩ ⟨(Nat.le_of_ble_eq_true rfl), (Nat.le_of_ble_eq_true rfl)⟩ dX4_move_79 (fun _ _ z => False.elim z) (fun v9 ws9 h22 => ?_)
            obtain ⟨r24, J25, hJ25, oJ25, rfl, hw9⟩ := h22
            subst ws9
            dsimp only [mPush]
            exact r_iret hX hE dX4_move_82 (Nat.le_of_ble_eq_true rfl) (Nat.le_of_ble_eq_true rfl) ⟨_, J25, hJ25, (oJ25.trans ((congrArg Prod.fst eJ11).trans rfl)), rfl, rfl⟩
        · refine r_ldc2 hX kc_X4_96 dX4_move_47 ?_
          refine r_goto (tgt := 65) hX dX4_move_50 (by decide) ?_
          refine r_lmul hX dX4_move_65 ?_
          refine r_lstore hX dX4_move_66 (by decide) rfl ?_
          refine r_aload_n hX dX4_move_68 rfl rfl ?_
          refine r_iload_n hX dX4_move_69 rfl rfl ?_
          refine r_aload_n hX dX4_move_70 rfl rfl ?_
          refine r_get hX kf_X4_13 14 rfl rfl dX4_move_71 ?_
          refine r_iload_n hX dX4_move_74 rfl rfl ?_
          refine r_lald hX 16 1 rfl rfl (vp_in_nI hhi14 (by decide)) dX4_move_75 ?_
          refine r_lload hX dX4_move_76 rfl ?_
          refine r_ladd hX dX4_move_78 ?_
          refine r_callV hX (c_X4_become _ _ _ _ J11 _ (mWF2 eJ11 hJ) i14 hhi14 _) kv_X4_105 14 rfl rfl rfl rfl (Nat.le_of_ble_eq_true rfl) ⟨(Nat.le_of_ble_eq_true rfl), (Nat.le_of_ble_eq_true rfl)⟩ ⟨(Nat.le_of_ble_eq_true rfl), (Nat.le_of_ble_eq_true rfl)⟩ dX4_move_79 (fun _ _ z => False.elim z) (fun v9 ws9 h26 => ?_)
          obtain ⟨r28, J29, hJ29, oJ29, rfl, hw9⟩ := h26
          subst ws9
          dsimp only [mPush]
          exact r_iret hX hE dX4_move_82 (Nat.le_of_ble_eq_true rfl) (Nat.le_of_ble_eq_true rfl) ⟨_, J29, hJ29, (oJ29.trans ((congrArg Prod.fst eJ11).trans rfl)), rfl, rfl⟩
      · refine r_iload_n hX dX4_move_35 rfl rfl ?_
        refine r_i2l hX dX4_move_36 ?_
        refine r_lneg hX dX4_move_37 ?_
        refine r_goto (tgt := 43) hX dX4_move_38 (by decide) ?_
        refine r_iload_n hX dX4_move_43 rfl rfl ?_
        refine r_if_ne (tgt := 53) hX dX4_move_44 (by decide) (fun c30 => ?_) (fun c30 => ?_)
        · refine r_iload_n hX dX4_move_53 rfl rfl ?_
          refine r_iconst (v := 1) hX dX4_move_54 (by decide) ?_
          refine r_icmp_ne (tgt := 64) hX dX4_move_55 (by decide) (fun c31 => ?_) (fun c31 => ?_)
          · refine r_lconst (v := 1) hX dX4_move_64 (by decide) ?_
            refine r_lmul hX dX4_move_65 ?_
            refine r_lstore hX dX4_move_66 (by decide) rfl ?_
            refine r_aload_n hX dX4_move_68 rfl rfl ?_
            refine r_iload_n hX dX4_move_69 rfl rfl ?_
            refine r_aload_n hX dX4_move_70 rfl rfl ?_
            refine r_get hX kf_X4_13 14 rfl rfl dX4_move_71 ?_
            refine r_iload_n hX dX4_move_74 rfl rfl ?_
            refine r_lald hX 16 1 rfl rfl (vp_in_nI hhi14 (by decide)) dX4_move_75 ?_
            refine r_lload hX dX4_move_76 rfl ?_
            refine r_ladd hX dX4_move_78 ?_
            refine r_callV hX (c_X4_become _ _ _ _ J11 _ (mWF2 eJ11 hJ) i14 hhi14 _) kv_X4_105 14 rfl rfl rfl rfl (Nat.le_of_ble_eq_true rfl) ⟨(Nat.le_of_ble_eq_true rfl), (Nat.le_of_ble_eq_true rfl)⟩ ⟨(Nat.le_of_ble_eq_true rfl), (Nat.le_of_ble_eq_true rfl)⟩ dX4_move_79 (fun _ _ z => False.elim z) (fun v9 ws9 h32 => ?_)
            obtain ⟨r34, J35, hJ35, oJ35, rfl, hw9⟩ := h32
            subst ws9
            dsimp only [mPush]
            exact r_iret hX hE dX4_move_82 (Nat.le_of_ble_eq_true rfl) (Nat.le_of_ble_eq_true rfl) ⟨_, J35, hJ35, (oJ35.trans ((congrArg Prod.fst eJ11).trans rfl)), rfl, rfl⟩
          · refine r_ldc2 hX kc_X4_111 dX4_move_58 ?_
            refine r_goto (tgt := 65) hX dX4_move_61 (by decide) ?_
            refine r_lmul hX dX4_move_65 ?_
            refine r_lstore hX dX4_move_66 (by decide) rfl ?_
            refine r_aload_n hX dX4_move_68 rfl rfl ?_
            refine r_iload_n hX dX4_move_69 rfl rfl ?_
            refine r_aload_n hX dX4_move_70 rfl rfl ?_
            refine r_get hX kf_X4_13 14 rfl rfl dX4_move_71 ?_
            refine r_iload_n hX dX4_move_74 rfl rfl ?_
            refine r_lald hX 16 1 rfl rfl (vp_in_nI hhi14 (by decide)) dX4_move_75 ?_
            refine r_lload hX dX4_move_76 rfl ?_
            refine r_ladd hX dX4_move_78 ?_
            refine r_callV hX (c_X4_become _ _ _ _ J11 _ (mWF2 eJ11 hJ) i14 hhi14 _) kv_X4_105 14 rfl rfl rfl rfl (Nat.le_of_ble_eq_true rfl) ⟨(Nat.le_of_ble_eq_true rfl), (Nat.le_of_ble_eq_true rfl)⟩ ⟨(Nat.le_of_ble_eq_true rfl), (Nat.le_of_ble_eq_true rfl)⟩ dX4_move_79 (fun _ _ z => False.elim z) (fun v9 ws9 h36 => ?_)
            obtain ⟨r38, J39, hJ39, oJ39, rfl, hw9⟩ := h36
            subst ws9
            dsimp only [mPush]
            exact r_iret hX hE dX4_move_82 (Nat.le_of_ble_eq_true rfl) (Nat.le_of_ble_eq_true rfl) ⟨_, J39, hJ39, (oJ39.trans ((congrArg Prod.fst eJ11).trans rfl)), rfl, rfl⟩
        · refine r_ldc2 hX kc_X4_96 dX4_move_47 ?_
          refine r_goto (tgt := 65) hX dX4_move_50 (by decide) ?_
          refine r_lmul hX dX4_move_65 ?_
          refine r_lstore hX dX4_move_66 (by decide) rfl ?_
          refine r_aload_n hX dX4_move_68 rfl rfl ?_
          refine r_iload_n hX dX4_move_69 rfl rfl ?_
          refine r_aload_n hX dX4_move_70 rfl rfl ?_
          refine r_get hX kf_X4_13 14 rfl rfl dX4_move_71 ?_
          refine r_iload_n hX dX4_move_74 rfl rfl ?_
          refine r_lald hX 16 1 rfl rfl (vp_in_nI hhi14 (by decide)) dX4_move_75 ?_
          refine r_lload hX dX4_move_76 rfl ?_
          refine r_ladd hX dX4_move_78 ?_
          refine r_callV hX (c_X4_become _ _ _ _ J11 _ (mWF2 eJ11 hJ) i14 hhi14 _) kv_X4_105 14 rfl rfl rfl rfl (Nat.le_of_ble_eq_true rfl) ⟨(Nat.le_of_ble_eq_true rfl), (Nat.le_of_ble_eq_true rfl)⟩ ⟨(Nat.le_of_ble_eq_true rfl), (Nat.le_of_ble_eq_true rfl)⟩ dX4_move_79 (fun _ _ z => False.elim z) (fun v9 ws9 h40 => ?_)
          obtain ⟨r42, J43, hJ43, oJ43, rfl, hw9⟩ := h40
          subst ws9
          dsimp only [mPush]
          exact r_iret hX hE dX4_move_82 (Nat.le_of_ble_eq_true rfl) (Nat.le_of_ble_eq_true rfl) ⟨_, J43, hJ43, (oJ43.trans ((congrArg Prod.fst eJ11).trans rfl)), rfl, rfl⟩
    · refine r_iconst (v := 0) hX dX4_move_28 (by decide) ?_
      exact r_iret hX hE dX4_move_29 (Nat.le_of_ble_eq_true rfl) (Nat.le_of_ble_eq_true rfl) ⟨_, J11, (mWF2 eJ11 hJ), ((congrArg Prod.fst eJ11).trans rfl), rfl, rfl⟩
  · refine r_iconst (v := 1) hX dX4_move_17 (by decide) ?_
    refine r_goto (tgt := 22) hX dX4_move_18 (by decide) ?_
    refine r_callV hX (c_X4_isStopped _ _ _ _ _ _ _ _) kv_X4_68 14 rfl rfl rfl rfl (Nat.le_of_ble_eq_true rfl) ⟨(Nat.le_of_ble_eq_true rfl), (Nat.le_of_ble_eq_true rfl)⟩ ⟨(Nat.le_of_ble_eq_true rfl), (Nat.le_of_ble_eq_true rfl)⟩ dX4_move_22 (fun _ _ z => False.elim z) (fun v9 ws9 h44 => ?_)
    obtain ⟨r46, J47, nr46, etJ47, erJ47, eJ47, rfl, hw9⟩ := h44
    subst ws9
    dsimp only [mPush]
    refine r_if_eq (tgt := 30) hX dX4_move_25 (by decide) (fun c48 => ?_) (fun c48 => ?_)
    · have hs49 := mnone0 nr46 (by first | exact c48 | exact Classical.not_not.mp c48)
      exact absurd hs49.2 (by decide)
    · refine r_iconst (v := 0) hX dX4_move_28 (by decide) ?_
      exact r_iret hX hE dX4_move_29 (Nat.le_of_ble_eq_true rfl) (Nat.le_of_ble_eq_true rfl) ⟨_, J47, (mWF2 eJ47 hJ), ((congrArg Prod.fst eJ47).trans rfl), rfl, rfl⟩
theorem dX4_number_0 : decode cX4_number 0 = .ok (.ldc2_w 113, 3) := by decide +kernel
theorem dX4_number_3 : decode cX4_number 3 = .ok (.aload_n 0, 1) := by decide +kernel
theorem dX4_number_4 : decode cX4_number 4 = .ok (.getfield 17, 3) := by decide +kernel
theorem dX4_number_7 : decode cX4_number 7 = .ok (.iload_n 1, 1) := by decide +kernel
theorem dX4_number_8 : decode cX4_number 8 = .ok (.iaload, 1) := by decide +kernel
theorem dX4_number_9 : decode cX4_number 9 = .ok (.i2l, 1) := by decide +kernel
theorem dX4_number_10 : decode cX4_number 10 = .ok (.lmul, 1) := by decide +kernel
theorem dX4_number_11 : decode cX4_number 11 = .ok (.aload_n 0, 1) := by decide +kernel
theorem dX4_number_12 : decode cX4_number 12 = .ok (.getfield 20, 3) := by decide +kernel
theorem dX4_number_15 : decode cX4_number 15 = .ok (.iload_n 1, 1) := by decide +kernel
theorem dX4_number_16 : decode cX4_number 16 = .ok (.iaload, 1) := by decide +kernel
theorem dX4_number_17 : decode cX4_number 17 = .ok (.i2l, 1) := by decide +kernel
theorem dX4_number_18 : decode cX4_number 18 = .ok (.ladd, 1) := by decide +kernel
theorem dX4_number_19 : decode cX4_number 19 = .ok (.aload_n 0, 1) := by decide +kernel
theorem dX4_number_20 : decode cX4_number 20 = .ok (.getfield 26, 3) := by decide +kernel
theorem dX4_number_23 : decode cX4_number 23 = .ok (.iload_n 1, 1) := by decide +kernel
theorem dX4_number_24 : decode cX4_number 24 = .ok (.iaload, 1) := by decide +kernel
theorem dX4_number_25 : decode cX4_number 25 = .ok (.i2l, 1) := by decide +kernel
theorem dX4_number_26 : decode cX4_number 26 = .ok (.lsub, 1) := by decide +kernel
theorem dX4_number_27 : decode cX4_number 27 = .ok (.ldc2_w 96, 3) := by decide +kernel
theorem dX4_number_30 : decode cX4_number 30 = .ok (.lmul, 1) := by decide +kernel
theorem dX4_number_31 : decode cX4_number 31 = .ok (.aload_n 0, 1) := by decide +kernel
theorem dX4_number_32 : decode cX4_number 32 = .ok (.getfield 23, 3) := by decide +kernel
theorem dX4_number_35 : decode cX4_number 35 = .ok (.iload_n 1, 1) := by decide +kernel
theorem dX4_number_36 : decode cX4_number 36 = .ok (.iaload, 1) := by decide +kernel
theorem dX4_number_37 : decode cX4_number 37 = .ok (.i2l, 1) := by decide +kernel
theorem dX4_number_38 : decode cX4_number 38 = .ok (.ladd, 1) := by decide +kernel
theorem dX4_number_39 : decode cX4_number 39 = .ok (.lreturn, 1) := by decide +kernel
set_option maxHeartbeats 4000000 in
set_option maxRecDepth 20000 in
theorem c_X4_number (ad ae : Nat → Nat) (cs : ClassId × ClassId × ClassId) (K : mK) (J : mJ) (rest : va_W) (hJ : mWF J) (j0 : Nat) (hj0 : j0 < 7) : mCt (mTy cs) yX4_number cX4_number 2 (some .long) ⟨0, 0, 0, 0⟩ [.ref (ae 0), .int (nI j0)] (mRw ad ae cs K J rest) (mZl ad ae cs K J rest) mNo := by
  refine mCt.of (by decide +kernel) (Nat.le_of_ble_eq_true rfl) (fun X hX hE => ?_)
  have hX : mOK X RX4 cX4_number 2 ⟨0, 0, 0, 0⟩ [] (mTy cs) := hX
  refine r_ldc2 hX kc_X4_113 dX4_number_0 ?_
  refine r_aload_n hX dX4_number_3 rfl rfl ?_
  refine r_get hX kf_X4_17 14 rfl rfl dX4_number_4 ?_
  refine r_iload_n hX dX4_number_7 rfl rfl ?_
  refine r_iald hX 17 0 rfl rfl (vp_in_nI hj0 (by decide)) dX4_number_8 ?_
  refine r_i2l hX dX4_number_9 ?_
  refine r_lmul hX dX4_number_10 ?_
  refine r_aload_n hX dX4_number_11 rfl rfl ?_
  refine r_get hX kf_X4_20 14 rfl rfl dX4_number_12 ?_
  refine r_iload_n hX dX4_number_15 rfl rfl ?_
  refine r_iald hX 18 0 rfl rfl (vp_in_nI hj0 (by decide)) dX4_number_16 ?_
  refine r_i2l hX dX4_number_17 ?_
  refine r_ladd hX dX4_number_18 ?_
  refine r_aload_n hX dX4_number_19 rfl rfl ?_
  refine r_get hX kf_X4_26 14 rfl rfl dX4_number_20 ?_
  refine r_iload_n hX dX4_number_23 rfl rfl ?_
  refine r_iald hX 20 0 rfl rfl (vp_in_nI hj0 (by decide)) dX4_number_24 ?_
  refine r_i2l hX dX4_number_25 ?_
  refine r_lsub hX dX4_number_26 ?_
  refine r_ldc2 hX kc_X4_96 dX4_number_27 ?_
  refine r_lmul hX dX4_number_30 ?_
  refine r_aload_n hX dX4_number_31 rfl rfl ?_
  refine r_get hX kf_X4_23 14 rfl rfl dX4_number_32 ?_
  refine r_iload_n hX dX4_number_35 rfl rfl ?_
  refine r_iald hX 19 0 rfl rfl (vp_in_nI hj0 (by decide)) dX4_number_36 ?_
  refine r_i2l hX dX4_number_37 ?_
  refine r_ladd hX dX4_number_38 ?_
  exact r_lret hX hE dX4_number_39 (Nat.le_of_ble_eq_true rfl) (Nat.le_of_ble_eq_true rfl) ⟨_, J, hJ, rfl, rfl, rfl⟩
theorem dX4_momentOf_0 : decode cX4_momentOf 0 = .ok (.aload_n 0, 1) := by decide +kernel
theorem dX4_momentOf_1 : decode cX4_momentOf 1 = .ok (.iload_n 1, 1) := by decide +kernel
theorem dX4_momentOf_2 : decode cX4_momentOf 2 = .ok (.invokestatic 61, 3) := by decide +kernel
theorem dX4_momentOf_5 : decode cX4_momentOf 5 = .ok (.ifCond .ne 10, 3) := by decide +kernel
theorem dX4_momentOf_8 : decode cX4_momentOf 8 = .ok (.iload_n 2, 1) := by decide +kernel
theorem dX4_momentOf_9 : decode cX4_momentOf 9 = .ok (.invokestatic 61, 3) := by decide +kernel
theorem dX4_momentOf_12 : decode cX4_momentOf 12 = .ok (.ifCond .eq 7, 3) := by decide +kernel
theorem dX4_momentOf_15 : decode cX4_momentOf 15 = .ok (.iconst 1, 1) := by decide +kernel
theorem dX4_momentOf_16 : decode cX4_momentOf 16 = .ok (.goto 4, 3) := by decide +kernel
theorem dX4_momentOf_19 : decode cX4_momentOf 19 = .ok (.iconst 0, 1) := by decide +kernel
theorem dX4_momentOf_20 : decode cX4_momentOf 20 = .ok (.iconst 0, 1) := by decide +kernel
theorem dX4_momentOf_21 : decode cX4_momentOf 21 = .ok (.invokevirtual 68, 3) := by decide +kernel
theorem dX4_momentOf_24 : decode cX4_momentOf 24 = .ok (.ifCond .eq 7, 3) := by decide +kernel
theorem dX4_momentOf_27 : decode cX4_momentOf 27 = .ok (.iconst 0, 1) := by decide +kernel
theorem dX4_momentOf_28 : decode cX4_momentOf 28 = .ok (.goto 13, 3) := by decide +kernel
theorem dX4_momentOf_31 : decode cX4_momentOf 31 = .ok (.aload_n 0, 1) := by decide +kernel
theorem dX4_momentOf_32 : decode cX4_momentOf 32 = .ok (.iload_n 1, 1) := by decide +kernel
theorem dX4_momentOf_33 : decode cX4_momentOf 33 = .ok (.aload_n 0, 1) := by decide +kernel
theorem dX4_momentOf_34 : decode cX4_momentOf 34 = .ok (.iload_n 2, 1) := by decide +kernel
theorem dX4_momentOf_35 : decode cX4_momentOf 35 = .ok (.invokevirtual 115, 3) := by decide +kernel
theorem dX4_momentOf_38 : decode cX4_momentOf 38 = .ok (.invokevirtual 105, 3) := by decide +kernel
theorem dX4_momentOf_41 : decode cX4_momentOf 41 = .ok (.ireturn, 1) := by decide +kernel
set_option maxHeartbeats 4000000 in
set_option maxRecDepth 20000 in
theorem c_X4_momentOf (ad ae : Nat → Nat) (cs : ClassId × ClassId × ClassId) (K : mK) (J : mJ) (rest : va_W) (hJ : mWF J) (p0 : Int32) (p1 : Int32) : mCt (mTy cs) yX4_momentOf cX4_momentOf 3 (some .int) ⟨3, 0, 0, 69⟩ [.ref (ae 0), .int p0, .int p1] (mRw ad ae cs K J rest) (mZi ad ae cs K J rest) mNo := by
  refine mCt.of (by decide +kernel) (Nat.le_of_ble_eq_true rfl) (fun X hX hE => ?_)
  have hX : mOK X RX4 cX4_momentOf 3 ⟨3, 0, 0, 69⟩ [] (mTy cs) := hX
  refine r_aload_n hX dX4_momentOf_0 rfl rfl ?_
  refine r_iload_n hX dX4_momentOf_1 rfl rfl ?_
  refine r_callS hX (c_X4_isNone _ _ _) ks_X4_61 rfl rfl (Nat.le_of_ble_eq_true rfl) ⟨(Nat.le_of_ble_eq_true rfl), (Nat.le_of_ble_eq_true rfl)⟩ ⟨(Nat.le_of_ble_eq_true rfl), (Nat.le_of_ble_eq_true rfl)⟩ dX4_momentOf_2 (fun _ _ z => False.elim z) (fun v9 ws9 h1 => ?_)
  obtain ⟨r3, nr3, rfl, hw9⟩ := h1
  subst ws9
  dsimp only [mPush]
  refine r_if_ne (tgt := 15) hX dX4_momentOf_5 (by decide) (fun c4 => ?_) (fun c4 => ?_)
  · refine r_iconst (v := 1) hX dX4_momentOf_15 (by decide) ?_
    refine r_goto (tgt := 20) hX dX4_momentOf_16 (by decide) ?_
    refine r_iconst (v := 0) hX dX4_momentOf_20 (by decide) ?_
    refine r_callV hX (c_X4_isStopped _ _ _ _ _ _ _ _) kv_X4_68 14 rfl rfl rfl rfl (Nat.le_of_ble_eq_true rfl) ⟨(Nat.le_of_ble_eq_true rfl), (Nat.le_of_ble_eq_true rfl)⟩ ⟨(Nat.le_of_ble_eq_true rfl), (Nat.le_of_ble_eq_true rfl)⟩ dX4_momentOf_21 (fun _ _ z => False.elim z) (fun v9 ws9 h5 => ?_)
    obtain ⟨r7, J8, nr7, etJ8, erJ8, eJ8, rfl, hw9⟩ := h5
    subst ws9
    dsimp only [mPush]
    refine r_if_eq (tgt := 31) hX dX4_momentOf_24 (by decide) (fun c9 => ?_) (fun c9 => ?_)
    · have hs10 := mnone0 nr7 (by first | exact c9 | exact Classical.not_not.mp c9)
      exact absurd hs10.1 (by decide)
    · refine r_iconst (v := 0) hX dX4_momentOf_27 (by decide) ?_
      refine r_goto (tgt := 41) hX dX4_momentOf_28 (by decide) ?_
      exact r_iret hX hE dX4_momentOf_41 (Nat.le_of_ble_eq_true rfl) (Nat.le_of_ble_eq_true rfl) ⟨_, J8, (mWF2 eJ8 hJ), ((congrArg Prod.fst eJ8).trans rfl), rfl, rfl⟩
  · obtain ⟨i11, hhi11, rfl⟩ := mnone0 nr3 (by first | exact c4 | exact Classical.not_not.mp c4)
    refine r_iload_n hX dX4_momentOf_8 rfl rfl ?_
    refine r_callS hX (c_X4_isNone _ _ _) ks_X4_61 rfl rfl (Nat.le_of_ble_eq_true rfl) ⟨(Nat.le_of_ble_eq_true rfl), (Nat.le_of_ble_eq_true rfl)⟩ ⟨(Nat.le_of_ble_eq_true rfl), (Nat.le_of_ble_eq_true rfl)⟩ dX4_momentOf_9 (fun _ _ z => False.elim z) (fun v9 ws9 h12 => ?_)
    obtain ⟨r14, nr14, rfl, hw9⟩ := h12
    subst ws9
    dsimp only [mPush]
    refine r_if_eq (tgt := 19) hX dX4_momentOf_12 (by decide) (fun c15 => ?_) (fun c15 => ?_)
    · obtain ⟨i16, hhi16, rfl⟩ := mnone0 nr14 (by first | exact c15 | exact Classical.not_not.mp c15)
      refine r_iconst (v := 0) hX dX4_momentOf_19 (by decide) ?_
      refine r_iconst (v := 0) hX dX4_momentOf_20 (by decide) ?_
      refine r_callV hX (c_X4_isStopped _ _ _ _ _ _ _ _) kv_X4_68 14 rfl rfl rfl rfl (Nat.le_of_ble_eq_true rfl) ⟨(Nat.le_of_ble_eq_true rfl), (Nat.le_of_ble_eq_true rfl)⟩ ⟨(Nat.le_of_ble_eq_true rfl), (Nat.le_of_ble_eq_true rfl)⟩ dX4_momentOf_21 (fun _ _ z => False.elim z) (fun v9 ws9 h17 => ?_)
      obtain ⟨r19, J20, nr19, etJ20, erJ20, eJ20, rfl, hw9⟩ := h17
      subst ws9
      dsimp only [mPush]
      refine r_if_eq (tgt := 31) hX dX4_momentOf_24 (by decide) (fun c21 => ?_) (fun c21 => ?_)
      · have hs22 := mnone0 nr19 (by first | exact c21 | exact Classical.not_not.mp c21)
        refine r_aload_n hX dX4_momentOf_31 rfl rfl ?_
        refine r_iload_n hX dX4_momentOf_32 rfl rfl ?_
        refine r_aload_n hX dX4_momentOf_33 rfl rfl ?_
        refine r_iload_n hX dX4_momentOf_34 rfl rfl ?_
        refine r_callV hX (c_X4_number _ _ _ _ J20 _ (mWF2 eJ20 hJ) i16 (Nat.lt_of_lt_of_le hhi16 (by decide))) kv_X4_115 14 rfl rfl rfl rfl (Nat.le_of_ble_eq_true rfl) ⟨(Nat.le_of_ble_eq_true rfl), (Nat.le_of_ble_eq_true rfl)⟩ ⟨(Nat.le_of_ble_eq_true rfl), (Nat.le_of_ble_eq_true rfl)⟩ dX4_momentOf_35 (fun _ _ z => False.elim z) (fun v9 ws9 h23 => ?_)
        obtain ⟨r25, J26, hJ26, oJ26, rfl, hw9⟩ := h23
        subst ws9
        dsimp only [mPush]
        refine r_callV hX (c_X4_become _ _ _ _ J26 _ hJ26 i11 hhi11 _) kv_X4_105 14 rfl rfl rfl rfl (Nat.le_of_ble_eq_true rfl) ⟨(Nat.le_of_ble_eq_true rfl), (Nat.le_of_ble_eq_true rfl)⟩ ⟨(Nat.le_of_ble_eq_true rfl), (Nat.le_of_ble_eq_true rfl)⟩ dX4_momentOf_38 (fun _ _ z => False.elim z) (fun v9 ws9 h27 => ?_)
        obtain ⟨r29, J30, hJ30, oJ30, rfl, hw9⟩ := h27
        subst ws9
        dsimp only [mPush]
        exact r_iret hX hE dX4_momentOf_41 (Nat.le_of_ble_eq_true rfl) (Nat.le_of_ble_eq_true rfl) ⟨_, J30, hJ30, (oJ30.trans (oJ26.trans ((congrArg Prod.fst eJ20).trans rfl))), rfl, rfl⟩
      · refine r_iconst (v := 0) hX dX4_momentOf_27 (by decide) ?_
        refine r_goto (tgt := 41) hX dX4_momentOf_28 (by decide) ?_
        exact r_iret hX hE dX4_momentOf_41 (Nat.le_of_ble_eq_true rfl) (Nat.le_of_ble_eq_true rfl) ⟨_, J20, (mWF2 eJ20 hJ), ((congrArg Prod.fst eJ20).trans rfl), rfl, rfl⟩
    · refine r_iconst (v := 1) hX dX4_momentOf_15 (by decide) ?_
      refine r_goto (tgt := 20) hX dX4_momentOf_16 (by decide) ?_
      refine r_iconst (v := 0) hX dX4_momentOf_20 (by decide) ?_
      refine r_callV hX (c_X4_isStopped _ _ _ _ _ _ _ _) kv_X4_68 14 rfl rfl rfl rfl (Nat.le_of_ble_eq_true rfl) ⟨(Nat.le_of_ble_eq_true rfl), (Nat.le_of_ble_eq_true rfl)⟩ ⟨(Nat.le_of_ble_eq_true rfl), (Nat.le_of_ble_eq_true rfl)⟩ dX4_momentOf_21 (fun _ _ z => False.elim z) (fun v9 ws9 h31 => ?_)
      obtain ⟨r33, J34, nr33, etJ34, erJ34, eJ34, rfl, hw9⟩ := h31
      subst ws9
      dsimp only [mPush]
      refine r_if_eq (tgt := 31) hX dX4_momentOf_24 (by decide) (fun c35 => ?_) (fun c35 => ?_)
      · have hs36 := mnone0 nr33 (by first | exact c35 | exact Classical.not_not.mp c35)
        exact absurd hs36.1 (by decide)
      · refine r_iconst (v := 0) hX dX4_momentOf_27 (by decide) ?_
        refine r_goto (tgt := 41) hX dX4_momentOf_28 (by decide) ?_
        exact r_iret hX hE dX4_momentOf_41 (Nat.le_of_ble_eq_true rfl) (Nat.le_of_ble_eq_true rfl) ⟨_, J34, (mWF2 eJ34 hJ), ((congrArg Prod.fst eJ34).trans rfl), rfl, rfl⟩
theorem dX4_copyMoment_0 : decode cX4_copyMoment 0 = .ok (.aload_n 0, 1) := by decide +kernel
theorem dX4_copyMoment_1 : decode cX4_copyMoment 1 = .ok (.iload_n 1, 1) := by decide +kernel
theorem dX4_copyMoment_2 : decode cX4_copyMoment 2 = .ok (.invokestatic 61, 3) := by decide +kernel
theorem dX4_copyMoment_5 : decode cX4_copyMoment 5 = .ok (.ifCond .ne 10, 3) := by decide +kernel
theorem dX4_copyMoment_8 : decode cX4_copyMoment 8 = .ok (.iload_n 2, 1) := by decide +kernel
theorem dX4_copyMoment_9 : decode cX4_copyMoment 9 = .ok (.invokestatic 61, 3) := by decide +kernel
theorem dX4_copyMoment_12 : decode cX4_copyMoment 12 = .ok (.ifCond .eq 7, 3) := by decide +kernel
theorem dX4_copyMoment_15 : decode cX4_copyMoment 15 = .ok (.iconst 1, 1) := by decide +kernel
theorem dX4_copyMoment_16 : decode cX4_copyMoment 16 = .ok (.goto 4, 3) := by decide +kernel
theorem dX4_copyMoment_19 : decode cX4_copyMoment 19 = .ok (.iconst 0, 1) := by decide +kernel
theorem dX4_copyMoment_20 : decode cX4_copyMoment 20 = .ok (.iconst 0, 1) := by decide +kernel
theorem dX4_copyMoment_21 : decode cX4_copyMoment 21 = .ok (.invokevirtual 68, 3) := by decide +kernel
theorem dX4_copyMoment_24 : decode cX4_copyMoment 24 = .ok (.ifCond .eq 7, 3) := by decide +kernel
theorem dX4_copyMoment_27 : decode cX4_copyMoment 27 = .ok (.iconst 0, 1) := by decide +kernel
theorem dX4_copyMoment_28 : decode cX4_copyMoment 28 = .ok (.goto 14, 3) := by decide +kernel
theorem dX4_copyMoment_31 : decode cX4_copyMoment 31 = .ok (.aload_n 0, 1) := by decide +kernel
theorem dX4_copyMoment_32 : decode cX4_copyMoment 32 = .ok (.iload_n 1, 1) := by decide +kernel
theorem dX4_copyMoment_33 : decode cX4_copyMoment 33 = .ok (.aload_n 0, 1) := by decide +kernel
theorem dX4_copyMoment_34 : decode cX4_copyMoment 34 = .ok (.getfield 13, 3) := by decide +kernel
theorem dX4_copyMoment_37 : decode cX4_copyMoment 37 = .ok (.iload_n 2, 1) := by decide +kernel
theorem dX4_copyMoment_38 : decode cX4_copyMoment 38 = .ok (.laload, 1) := by decide +kernel
theorem dX4_copyMoment_39 : decode cX4_copyMoment 39 = .ok (.invokevirtual 105, 3) := by decide +kernel
theorem dX4_copyMoment_42 : decode cX4_copyMoment 42 = .ok (.ireturn, 1) := by decide +kernel
set_option maxHeartbeats 4000000 in
set_option maxRecDepth 20000 in
theorem c_X4_copyMoment (ad ae : Nat → Nat) (cs : ClassId × ClassId × ClassId) (K : mK) (J : mJ) (rest : va_W) (hJ : mWF J) (p0 : Int32) (p1 : Int32) : mCt (mTy cs) yX4_copyMoment cX4_copyMoment 3 (some .int) ⟨3, 0, 0, 69⟩ [.ref (ae 0), .int p0, .int p1] (mRw ad ae cs K J rest) (mZi ad ae cs K J rest) mNo := by
  refine mCt.of (by decide +kernel) (Nat.le_of_ble_eq_true rfl) (fun X hX hE => ?_)
  have hX : mOK X RX4 cX4_copyMoment 3 ⟨3, 0, 0, 69⟩ [] (mTy cs) := hX
  refine r_aload_n hX dX4_copyMoment_0 rfl rfl ?_
  refine r_iload_n hX dX4_copyMoment_1 rfl rfl ?_
  refine r_callS hX (c_X4_isNone _ _ _) ks_X4_61 rfl rfl (Nat.le_of_ble_eq_true rfl) ⟨(Nat.le_of_ble_eq_true rfl), (Nat.le_of_ble_eq_true rfl)⟩ ⟨(Nat.le_of_ble_eq_true rfl), (Nat.le_of_ble_eq_true rfl)⟩ dX4_copyMoment_2 (fun _ _ z => False.elim z) (fun v9 ws9 h1 => ?_)
  obtain ⟨r3, nr3, rfl, hw9⟩ := h1
  subst ws9
  dsimp only [mPush]
  refine r_if_ne (tgt := 15) hX dX4_copyMoment_5 (by decide) (fun c4 => ?_) (fun c4 => ?_)
  · refine r_iconst (v := 1) hX dX4_copyMoment_15 (by decide) ?_
    refine r_goto (tgt := 20) hX dX4_copyMoment_16 (by decide) ?_
    refine r_iconst (v := 0) hX dX4_copyMoment_20 (by decide) ?_
    refine r_callV hX (c_X4_isStopped _ _ _ _ _ _ _ _) kv_X4_68 14 rfl rfl rfl rfl (Nat.le_of_ble_eq_true rfl) ⟨(Nat.le_of_ble_eq_true rfl), (Nat.le_of_ble_eq_true rfl)⟩ ⟨(Nat.le_of_ble_eq_true rfl), (Nat.le_of_ble_eq_true rfl)⟩ dX4_copyMoment_21 (fun _ _ z => False.elim z) (fun v9 ws9 h5 => ?_)
    obtain ⟨r7, J8, nr7, etJ8, erJ8, eJ8, rfl, hw9⟩ := h5
    subst ws9
    dsimp only [mPush]
    refine r_if_eq (tgt := 31) hX dX4_copyMoment_24 (by decide) (fun c9 => ?_) (fun c9 => ?_)
    · have hs10 := mnone0 nr7 (by first | exact c9 | exact Classical.not_not.mp c9)
      exact absurd hs10.1 (by decide)
    · refine r_iconst (v := 0) hX dX4_copyMoment_27 (by decide) ?_
      refine r_goto (tgt := 42) hX dX4_copyMoment_28 (by decide) ?_
      exact r_iret hX hE dX4_copyMoment_42 (Nat.le_of_ble_eq_true rfl) (Nat.le_of_ble_eq_true rfl) ⟨_, J8, (mWF2 eJ8 hJ), ((congrArg Prod.fst eJ8).trans rfl), rfl, rfl⟩
  · obtain ⟨i11, hhi11, rfl⟩ := mnone0 nr3 (by first | exact c4 | exact Classical.not_not.mp c4)
    refine r_iload_n hX dX4_copyMoment_8 rfl rfl ?_
    refine r_callS hX (c_X4_isNone _ _ _) ks_X4_61 rfl rfl (Nat.le_of_ble_eq_true rfl) ⟨(Nat.le_of_ble_eq_true rfl), (Nat.le_of_ble_eq_true rfl)⟩ ⟨(Nat.le_of_ble_eq_true rfl), (Nat.le_of_ble_eq_true rfl)⟩ dX4_copyMoment_9 (fun _ _ z => False.elim z) (fun v9 ws9 h12 => ?_)
    obtain ⟨r14, nr14, rfl, hw9⟩ := h12
    subst ws9
    dsimp only [mPush]
    refine r_if_eq (tgt := 19) hX dX4_copyMoment_12 (by decide) (fun c15 => ?_) (fun c15 => ?_)
    · obtain ⟨i16, hhi16, rfl⟩ := mnone0 nr14 (by first | exact c15 | exact Classical.not_not.mp c15)
      refine r_iconst (v := 0) hX dX4_copyMoment_19 (by decide) ?_
      refine r_iconst (v := 0) hX dX4_copyMoment_20 (by decide) ?_
      refine r_callV hX (c_X4_isStopped _ _ _ _ _ _ _ _) kv_X4_68 14 rfl rfl rfl rfl (Nat.le_of_ble_eq_true rfl) ⟨(Nat.le_of_ble_eq_true rfl), (Nat.le_of_ble_eq_true rfl)⟩ ⟨(Nat.le_of_ble_eq_true rfl), (Nat.le_of_ble_eq_true rfl)⟩ dX4_copyMoment_21 (fun _ _ z => False.elim z) (fun v9 ws9 h17 => ?_)
      obtain ⟨r19, J20, nr19, etJ20, erJ20, eJ20, rfl, hw9⟩ := h17
      subst ws9
      dsimp only [mPush]
      refine r_if_eq (tgt := 31) hX dX4_copyMoment_24 (by decide) (fun c21 => ?_) (fun c21 => ?_)
      · have hs22 := mnone0 nr19 (by first | exact c21 | exact Classical.not_not.mp c21)
        refine r_aload_n hX dX4_copyMoment_31 rfl rfl ?_
        refine r_iload_n hX dX4_copyMoment_32 rfl rfl ?_
        refine r_aload_n hX dX4_copyMoment_33 rfl rfl ?_
        refine r_get hX kf_X4_13 14 rfl rfl dX4_copyMoment_34 ?_
        refine r_iload_n hX dX4_copyMoment_37 rfl rfl ?_
        refine r_lald hX 16 1 rfl rfl (vp_in_nI hhi16 (by decide)) dX4_copyMoment_38 ?_
        refine r_callV hX (c_X4_become _ _ _ _ J20 _ (mWF2 eJ20 hJ) i11 hhi11 _) kv_X4_105 14 rfl rfl rfl rfl (Nat.le_of_ble_eq_true rfl) ⟨(Nat.le_of_ble_eq_true rfl), (Nat.le_of_ble_eq_true rfl)⟩ ⟨(Nat.le_of_ble_eq_true rfl), (Nat.le_of_ble_eq_true rfl)⟩ dX4_copyMoment_39 (fun _ _ z => False.elim z) (fun v9 ws9 h23 => ?_)
        obtain ⟨r25, J26, hJ26, oJ26, rfl, hw9⟩ := h23
        subst ws9
        dsimp only [mPush]
        exact r_iret hX hE dX4_copyMoment_42 (Nat.le_of_ble_eq_true rfl) (Nat.le_of_ble_eq_true rfl) ⟨_, J26, hJ26, (oJ26.trans ((congrArg Prod.fst eJ20).trans rfl)), rfl, rfl⟩
      · refine r_iconst (v := 0) hX dX4_copyMoment_27 (by decide) ?_
        refine r_goto (tgt := 42) hX dX4_copyMoment_28 (by decide) ?_
        exact r_iret hX hE dX4_copyMoment_42 (Nat.le_of_ble_eq_true rfl) (Nat.le_of_ble_eq_true rfl) ⟨_, J20, (mWF2 eJ20 hJ), ((congrArg Prod.fst eJ20).trans rfl), rfl, rfl⟩
    · refine r_iconst (v := 1) hX dX4_copyMoment_15 (by decide) ?_
      refine r_goto (tgt := 20) hX dX4_copyMoment_16 (by decide) ?_
      refine r_iconst (v := 0) hX dX4_copyMoment_20 (by decide) ?_
      refine r_callV hX (c_X4_isStopped _ _ _ _ _ _ _ _) kv_X4_68 14 rfl rfl rfl rfl (Nat.le_of_ble_eq_true rfl) ⟨(Nat.le_of_ble_eq_true rfl), (Nat.le_of_ble_eq_true rfl)⟩ ⟨(Nat.le_of_ble_eq_true rfl), (Nat.le_of_ble_eq_true rfl)⟩ dX4_copyMoment_21 (fun _ _ z => False.elim z) (fun v9 ws9 h27 => ?_)
      obtain ⟨r29, J30, nr29, etJ30, erJ30, eJ30, rfl, hw9⟩ := h27
      subst ws9
      dsimp only [mPush]
      refine r_if_eq (tgt := 31) hX dX4_copyMoment_24 (by decide) (fun c31 => ?_) (fun c31 => ?_)
      · have hs32 := mnone0 nr29 (by first | exact c31 | exact Classical.not_not.mp c31)
        exact absurd hs32.1 (by decide)
      · refine r_iconst (v := 0) hX dX4_copyMoment_27 (by decide) ?_
        refine r_goto (tgt := 42) hX dX4_copyMoment_28 (by decide) ?_
        exact r_iret hX hE dX4_copyMoment_42 (Nat.le_of_ble_eq_true rfl) (Nat.le_of_ble_eq_true rfl) ⟨_, J30, (mWF2 eJ30 hJ), ((congrArg Prod.fst eJ30).trans rfl), rfl, rfl⟩
theorem dX4_ofMoment_0 : decode cX4_ofMoment 0 = .ok (.aload_n 0, 1) := by decide +kernel
theorem dX4_ofMoment_1 : decode cX4_ofMoment 1 = .ok (.iload_n 1, 1) := by decide +kernel
theorem dX4_ofMoment_2 : decode cX4_ofMoment 2 = .ok (.invokestatic 61, 3) := by decide +kernel
theorem dX4_ofMoment_5 : decode cX4_ofMoment 5 = .ok (.iconst 0, 1) := by decide +kernel
theorem dX4_ofMoment_6 : decode cX4_ofMoment 6 = .ok (.invokevirtual 68, 3) := by decide +kernel
theorem dX4_ofMoment_9 : decode cX4_ofMoment 9 = .ok (.ifCond .eq 5, 3) := by decide +kernel
theorem dX4_ofMoment_12 : decode cX4_ofMoment 12 = .ok (.iconst 0, 1) := by decide +kernel
theorem dX4_ofMoment_13 : decode cX4_ofMoment 13 = .ok (.ireturn, 1) := by decide +kernel
theorem dX4_ofMoment_14 : decode cX4_ofMoment 14 = .ok (.iload_n 2, 1) := by decide +kernel
theorem dX4_ofMoment_15 : decode cX4_ofMoment 15 = .ok (.ifCond .eq 18, 3) := by decide +kernel
theorem dX4_ofMoment_18 : decode cX4_ofMoment 18 = .ok (.aload_n 0, 1) := by decide +kernel
theorem dX4_ofMoment_19 : decode cX4_ofMoment 19 = .ok (.getfield 13, 3) := by decide +kernel
theorem dX4_ofMoment_22 : decode cX4_ofMoment 22 = .ok (.iload_n 1, 1) := by decide +kernel
theorem dX4_ofMoment_23 : decode cX4_ofMoment 23 = .ok (.laload, 1) := by decide +kernel
theorem dX4_ofMoment_24 : decode cX4_ofMoment 24 = .ok (.ldc2_w 96, 3) := by decide +kernel
theorem dX4_ofMoment_27 : decode cX4_ofMoment 27 = .ok (.invokestatic 102, 3) := by decide +kernel
theorem dX4_ofMoment_30 : decode cX4_ofMoment 30 = .ok (.goto 16, 3) := by decide +kernel
theorem dX4_ofMoment_33 : decode cX4_ofMoment 33 = .ok (.aload_n 0, 1) := by decide +kernel
theorem dX4_ofMoment_34 : decode cX4_ofMoment 34 = .ok (.getfield 13, 3) := by decide +kernel
theorem dX4_ofMoment_37 : decode cX4_ofMoment 37 = .ok (.iload_n 1, 1) := by decide +kernel
theorem dX4_ofMoment_38 : decode cX4_ofMoment 38 = .ok (.laload, 1) := by decide +kernel
theorem dX4_ofMoment_39 : decode cX4_ofMoment 39 = .ok (.ldc2_w 96, 3) := by decide +kernel
theorem dX4_ofMoment_42 : decode cX4_ofMoment 42 = .ok (.invokestatic 92, 3) := by decide +kernel
theorem dX4_ofMoment_45 : decode cX4_ofMoment 45 = .ok (.l2i, 1) := by decide +kernel
theorem dX4_ofMoment_46 : decode cX4_ofMoment 46 = .ok (.ireturn, 1) := by decide +kernel
set_option maxHeartbeats 4000000 in
set_option maxRecDepth 20000 in
theorem c_X4_ofMoment (ad ae : Nat → Nat) (cs : ClassId × ClassId × ClassId) (K : mK) (J : mJ) (rest : va_W) (hJ : mWF J) (p0 : Int32) (p1 : Int32) : mCt (mTy cs) yX4_ofMoment cX4_ofMoment 3 (some .int) ⟨2, 0, 0, 46⟩ [.ref (ae 0), .int p0, .int p1] (mRw ad ae cs K J rest) (mZi ad ae cs K J rest) mNo := by
  refine mCt.of (by decide +kernel) (Nat.le_of_ble_eq_true rfl) (fun X hX hE => ?_)
  have hX : mOK X RX4 cX4_ofMoment 3 ⟨2, 0, 0, 46⟩ [] (mTy cs) := hX
  refine r_aload_n hX dX4_ofMoment_0 rfl rfl ?_
  refine r_iload_n hX dX4_ofMoment_1 rfl rfl ?_
  refine r_callS hX (c_X4_isNone _ _ _) ks_X4_61 rfl rfl (Nat.le_of_ble_eq_true rfl) ⟨(Nat.le_of_ble_eq_true rfl), (Nat.le_of_ble_eq_true rfl)⟩ ⟨(Nat.le_of_ble_eq_true rfl), (Nat.le_of_ble_eq_true rfl)⟩ dX4_ofMoment_2 (fun _ _ z => False.elim z) (fun v9 ws9 h1 => ?_)
  obtain ⟨r3, nr3, rfl, hw9⟩ := h1
  subst ws9
  dsimp only [mPush]
  refine r_iconst (v := 0) hX dX4_ofMoment_5 (by decide) ?_
  refine r_callV hX (c_X4_isStopped _ _ _ _ _ _ _ _) kv_X4_68 14 rfl rfl rfl rfl (Nat.le_of_ble_eq_true rfl) ⟨(Nat.le_of_ble_eq_true rfl), (Nat.le_of_ble_eq_true rfl)⟩ ⟨(Nat.le_of_ble_eq_true rfl), (Nat.le_of_ble_eq_true rfl)⟩ dX4_ofMoment_6 (fun _ _ z => False.elim z) (fun v9 ws9 h4 => ?_)
  obtain ⟨r6, J7, nr6, etJ7, erJ7, eJ7, rfl, hw9⟩ := h4
  subst ws9
  dsimp only [mPush]
  refine r_if_eq (tgt := 14) hX dX4_ofMoment_9 (by decide) (fun c8 => ?_) (fun c8 => ?_)
  · have hs9 := mnone0 nr6 (by first | exact c8 | exact Classical.not_not.mp c8)
    obtain ⟨i10, hhi10, rfl⟩ := mnone0 nr3 hs9.1
    refine r_iload_n hX dX4_ofMoment_14 rfl rfl ?_
    refine r_if_eq (tgt := 33) hX dX4_ofMoment_15 (by decide) (fun c11 => ?_) (fun c11 => ?_)
    · refine r_aload_n hX dX4_ofMoment_33 rfl rfl ?_
      refine r_get hX kf_X4_13 14 rfl rfl dX4_ofMoment_34 ?_
      refine r_iload_n hX dX4_ofMoment_37 rfl rfl ?_
      refine r_lald hX 16 1 rfl rfl (vp_in_nI hhi10 (by decide)) dX4_ofMoment_38 ?_
      refine r_ldc2 hX kc_X4_96 dX4_ofMoment_39 ?_
      refine r_callS hX (c_X4_whole _ _ _ _ (by decide)) ks_X4_92 rfl rfl (Nat.le_of_ble_eq_true rfl) ⟨(Nat.le_of_ble_eq_true rfl), (Nat.le_of_ble_eq_true rfl)⟩ ⟨(Nat.le_of_ble_eq_true rfl), (Nat.le_of_ble_eq_true rfl)⟩ dX4_ofMoment_42 (fun _ _ z => False.elim z) (fun v9 ws9 h12 => ?_)
      obtain ⟨r14, rfl, hw9⟩ := h12
      subst ws9
      dsimp only [mPush]
      refine r_l2i hX dX4_ofMoment_45 ?_
      exact r_iret hX hE dX4_ofMoment_46 (Nat.le_of_ble_eq_true rfl) (Nat.le_of_ble_eq_true rfl) ⟨_, J7, (mWF2 eJ7 hJ), ((congrArg Prod.fst eJ7).trans rfl), rfl, rfl⟩
    · refine r_aload_n hX dX4_ofMoment_18 rfl rfl ?_
      refine r_get hX kf_X4_13 14 rfl rfl dX4_ofMoment_19 ?_
      refine r_iload_n hX dX4_ofMoment_22 rfl rfl ?_
      refine r_lald hX 16 1 rfl rfl (vp_in_nI hhi10 (by decide)) dX4_ofMoment_23 ?_
      refine r_ldc2 hX kc_X4_96 dX4_ofMoment_24 ?_
      refine r_callS hX (c_X4_rest _ _ _ _ (by decide)) ks_X4_102 rfl rfl (Nat.le_of_ble_eq_true rfl) ⟨(Nat.le_of_ble_eq_true rfl), (Nat.le_of_ble_eq_true rfl)⟩ ⟨(Nat.le_of_ble_eq_true rfl), (Nat.le_of_ble_eq_true rfl)⟩ dX4_ofMoment_27 (fun _ _ z => False.elim z) (fun v9 ws9 h15 => ?_)
      obtain ⟨r17, rfl, hw9⟩ := h15
      subst ws9
      dsimp only [mPush]
      refine r_goto (tgt := 46) hX dX4_ofMoment_30 (by decide) ?_
      exact r_iret hX hE dX4_ofMoment_46 (Nat.le_of_ble_eq_true rfl) (Nat.le_of_ble_eq_true rfl) ⟨_, J7, (mWF2 eJ7 hJ), ((congrArg Prod.fst eJ7).trans rfl), rfl, rfl⟩
  · refine r_iconst (v := 0) hX dX4_ofMoment_12 (by decide) ?_
    exact r_iret hX hE dX4_ofMoment_13 (Nat.le_of_ble_eq_true rfl) (Nat.le_of_ble_eq_true rfl) ⟨_, J7, (mWF2 eJ7 hJ), ((congrArg Prod.fst eJ7).trans rfl), rfl, rfl⟩
theorem dX4_orderMoment_0 : decode cX4_orderMoment 0 = .ok (.aload_n 0, 1) := by decide +kernel
theorem dX4_orderMoment_1 : decode cX4_orderMoment 1 = .ok (.iload_n 1, 1) := by decide +kernel
theorem dX4_orderMoment_2 : decode cX4_orderMoment 2 = .ok (.invokestatic 61, 3) := by decide +kernel
theorem dX4_orderMoment_5 : decode cX4_orderMoment 5 = .ok (.ifCond .ne 10, 3) := by decide +kernel
theorem dX4_orderMoment_8 : decode cX4_orderMoment 8 = .ok (.iload_n 2, 1) := by decide +kernel
theorem dX4_orderMoment_9 : decode cX4_orderMoment 9 = .ok (.invokestatic 61, 3) := by decide +kernel
theorem dX4_orderMoment_12 : decode cX4_orderMoment 12 = .ok (.ifCond .eq 7, 3) := by decide +kernel
theorem dX4_orderMoment_15 : decode cX4_orderMoment 15 = .ok (.iconst 1, 1) := by decide +kernel
theorem dX4_orderMoment_16 : decode cX4_orderMoment 16 = .ok (.goto 4, 3) := by decide +kernel
theorem dX4_orderMoment_19 : decode cX4_orderMoment 19 = .ok (.iconst 0, 1) := by decide +kernel
theorem dX4_orderMoment_20 : decode cX4_orderMoment 20 = .ok (.iconst 0, 1) := by decide +kernel
theorem dX4_orderMoment_21 : decode cX4_orderMoment 21 = .ok (.invokevirtual 68, 3) := by decide +kernel
theorem dX4_orderMoment_24 : decode cX4_orderMoment 24 = .ok (.ifCond .eq 7, 3) := by decide +kernel
theorem dX4_orderMoment_27 : decode cX4_orderMoment 27 = .ok (.iconst 0, 1) := by decide +kernel
theorem dX4_orderMoment_28 : decode cX4_orderMoment 28 = .ok (.goto 18, 3) := by decide +kernel
theorem dX4_orderMoment_31 : decode cX4_orderMoment 31 = .ok (.aload_n 0, 1) := by decide +kernel
theorem dX4_orderMoment_32 : decode cX4_orderMoment 32 = .ok (.getfield 13, 3) := by decide +kernel
theorem dX4_orderMoment_35 : decode cX4_orderMoment 35 = .ok (.iload_n 1, 1) := by decide +kernel
theorem dX4_orderMoment_36 : decode cX4_orderMoment 36 = .ok (.laload, 1) := by decide +kernel
theorem dX4_orderMoment_37 : decode cX4_orderMoment 37 = .ok (.aload_n 0, 1) := by decide +kernel
theorem dX4_orderMoment_38 : decode cX4_orderMoment 38 = .ok (.getfield 13, 3) := by decide +kernel
theorem dX4_orderMoment_41 : decode cX4_orderMoment 41 = .ok (.iload_n 2, 1) := by decide +kernel
theorem dX4_orderMoment_42 : decode cX4_orderMoment 42 = .ok (.laload, 1) := by decide +kernel
theorem dX4_orderMoment_43 : decode cX4_orderMoment 43 = .ok (.invokestatic 88, 3) := by decide +kernel
theorem dX4_orderMoment_46 : decode cX4_orderMoment 46 = .ok (.ireturn, 1) := by decide +kernel
set_option maxHeartbeats 4000000 in
set_option maxRecDepth 20000 in
theorem c_X4_orderMoment (ad ae : Nat → Nat) (cs : ClassId × ClassId × ClassId) (K : mK) (J : mJ) (rest : va_W) (hJ : mWF J) (p0 : Int32) (p1 : Int32) : mCt (mTy cs) yX4_orderMoment cX4_orderMoment 3 (some .int) ⟨2, 0, 0, 45⟩ [.ref (ae 0), .int p0, .int p1] (mRw ad ae cs K J rest) (mZi ad ae cs K J rest) mNo := by
  refine mCt.of (by decide +kernel) (Nat.le_of_ble_eq_true rfl) (fun X hX hE => ?_)
  have hX : mOK X RX4 cX4_orderMoment 3 ⟨2, 0, 0, 45⟩ [] (mTy cs) := hX
  refine r_aload_n hX dX4_orderMoment_0 rfl rfl ?_
  refine r_iload_n hX dX4_orderMoment_1 rfl rfl ?_
  refine r_callS hX (c_X4_isNone _ _ _) ks_X4_61 rfl rfl (Nat.le_of_ble_eq_true rfl) ⟨(Nat.le_of_ble_eq_true rfl), (Nat.le_of_ble_eq_true rfl)⟩ ⟨(Nat.le_of_ble_eq_true rfl), (Nat.le_of_ble_eq_true rfl)⟩ dX4_orderMoment_2 (fun _ _ z => False.elim z) (fun v9 ws9 h1 => ?_)
  obtain ⟨r3, nr3, rfl, hw9⟩ := h1
  subst ws9
  dsimp only [mPush]
  refine r_if_ne (tgt := 15) hX dX4_orderMoment_5 (by decide) (fun c4 => ?_) (fun c4 => ?_)
  · refine r_iconst (v := 1) hX dX4_orderMoment_15 (by decide) ?_
    refine r_goto (tgt := 20) hX dX4_orderMoment_16 (by decide) ?_
    refine r_iconst (v := 0) hX dX4_orderMoment_20 (by decide) ?_
    refine r_callV hX (c_X4_isStopped _ _ _ _ _ _ _ _) kv_X4_68 14 rfl rfl rfl rfl (Nat.le_of_ble_eq_true rfl) ⟨(Nat.le_of_ble_eq_true rfl), (Nat.le_of_ble_eq_true rfl)⟩ ⟨(Nat.le_of_ble_eq_true rfl), (Nat.le_of_ble_eq_true rfl)⟩ dX4_orderMoment_21 (fun _ _ z => False.elim z) (fun v9 ws9 h5 => ?_)
    obtain ⟨r7, J8, nr7, etJ8, erJ8, eJ8, rfl, hw9⟩ := h5
    subst ws9
    dsimp only [mPush]
    refine r_if_eq (tgt := 31) hX dX4_orderMoment_24 (by decide) (fun c9 => ?_) (fun c9 => ?_)
    · have hs10 := mnone0 nr7 (by first | exact c9 | exact Classical.not_not.mp c9)
      exact absurd hs10.1 (by decide)
    · refine r_iconst (v := 0) hX dX4_orderMoment_27 (by decide) ?_
      refine r_goto (tgt := 46) hX dX4_orderMoment_28 (by decide) ?_
      exact r_iret hX hE dX4_orderMoment_46 (Nat.le_of_ble_eq_true rfl) (Nat.le_of_ble_eq_true rfl) ⟨_, J8, (mWF2 eJ8 hJ), ((congrArg Prod.fst eJ8).trans rfl), rfl, rfl⟩
  · obtain ⟨i11, hhi11, rfl⟩ := mnone0 nr3 (by first | exact c4 | exact Classical.not_not.mp c4)
    refine r_iload_n hX dX4_orderMoment_8 rfl rfl ?_
    refine r_callS hX (c_X4_isNone _ _ _) ks_X4_61 rfl rfl (Nat.le_of_ble_eq_true rfl) ⟨(Nat.le_of_ble_eq_true rfl), (Nat.le_of_ble_eq_true rfl)⟩ ⟨(Nat.le_of_ble_eq_true rfl), (Nat.le_of_ble_eq_true rfl)⟩ dX4_orderMoment_9 (fun _ _ z => False.elim z) (fun v9 ws9 h12 => ?_)
    obtain ⟨r14, nr14, rfl, hw9⟩ := h12
    subst ws9
    dsimp only [mPush]
    refine r_if_eq (tgt := 19) hX dX4_orderMoment_12 (by decide) (fun c15 => ?_) (fun c15 => ?_)
    · obtain ⟨i16, hhi16, rfl⟩ := mnone0 nr14 (by first | exact c15 | exact Classical.not_not.mp c15)
      refine r_iconst (v := 0) hX dX4_orderMoment_19 (by decide) ?_
      refine r_iconst (v := 0) hX dX4_orderMoment_20 (by decide) ?_
      refine r_callV hX (c_X4_isStopped _ _ _ _ _ _ _ _) kv_X4_68 14 rfl rfl rfl rfl (Nat.le_of_ble_eq_true rfl) ⟨(Nat.le_of_ble_eq_true rfl), (Nat.le_of_ble_eq_true rfl)⟩ ⟨(Nat.le_of_ble_eq_true rfl), (Nat.le_of_ble_eq_true rfl)⟩ dX4_orderMoment_21 (fun _ _ z => False.elim z) (fun v9 ws9 h17 => ?_)
      obtain ⟨r19, J20, nr19, etJ20, erJ20, eJ20, rfl, hw9⟩ := h17
      subst ws9
      dsimp only [mPush]
      refine r_if_eq (tgt := 31) hX dX4_orderMoment_24 (by decide) (fun c21 => ?_) (fun c21 => ?_)
      · have hs22 := mnone0 nr19 (by first | exact c21 | exact Classical.not_not.mp c21)
        refine r_aload_n hX dX4_orderMoment_31 rfl rfl ?_
        refine r_get hX kf_X4_13 14 rfl rfl dX4_orderMoment_32 ?_
        refine r_iload_n hX dX4_orderMoment_35 rfl rfl ?_
        refine r_lald hX 16 1 rfl rfl (vp_in_nI hhi11 (by decide)) dX4_orderMoment_36 ?_
        refine r_aload_n hX dX4_orderMoment_37 rfl rfl ?_
        refine r_get hX kf_X4_13 14 rfl rfl dX4_orderMoment_38 ?_
        refine r_iload_n hX dX4_orderMoment_41 rfl rfl ?_
        refine r_lald hX 16 1 rfl rfl (vp_in_nI hhi16 (by decide)) dX4_orderMoment_42 ?_
        refine r_callS hX (c_X4_order _ _ _ _) ks_X4_88 rfl rfl (Nat.le_of_ble_eq_true rfl) ⟨(Nat.le_of_ble_eq_true rfl), (Nat.le_of_ble_eq_true rfl)⟩ ⟨(Nat.le_of_ble_eq_true rfl), (Nat.le_of_ble_eq_true rfl)⟩ dX4_orderMoment_43 (fun _ _ z => False.elim z) (fun v9 ws9 h23 => ?_)
        obtain ⟨r25, rfl, hw9⟩ := h23
        subst ws9
        dsimp only [mPush]
        exact r_iret hX hE dX4_orderMoment_46 (Nat.le_of_ble_eq_true rfl) (Nat.le_of_ble_eq_true rfl) ⟨_, J20, (mWF2 eJ20 hJ), ((congrArg Prod.fst eJ20).trans rfl), rfl, rfl⟩
      · refine r_iconst (v := 0) hX dX4_orderMoment_27 (by decide) ?_
        refine r_goto (tgt := 46) hX dX4_orderMoment_28 (by decide) ?_
        exact r_iret hX hE dX4_orderMoment_46 (Nat.le_of_ble_eq_true rfl) (Nat.le_of_ble_eq_true rfl) ⟨_, J20, (mWF2 eJ20 hJ), ((congrArg Prod.fst eJ20).trans rfl), rfl, rfl⟩
    · refine r_iconst (v := 1) hX dX4_orderMoment_15 (by decide) ?_
      refine r_goto (tgt := 20) hX dX4_orderMoment_16 (by decide) ?_
      refine r_iconst (v := 0) hX dX4_orderMoment_20 (by decide) ?_
      refine r_callV hX (c_X4_isStopped _ _ _ _ _ _ _ _) kv_X4_68 14 rfl rfl rfl rfl (Nat.le_of_ble_eq_true rfl) ⟨(Nat.le_of_ble_eq_true rfl), (Nat.le_of_ble_eq_true rfl)⟩ ⟨(Nat.le_of_ble_eq_true rfl), (Nat.le_of_ble_eq_true rfl)⟩ dX4_orderMoment_21 (fun _ _ z => False.elim z) (fun v9 ws9 h26 => ?_)
      obtain ⟨r28, J29, nr28, etJ29, erJ29, eJ29, rfl, hw9⟩ := h26
      subst ws9
      dsimp only [mPush]
      refine r_if_eq (tgt := 31) hX dX4_orderMoment_24 (by decide) (fun c30 => ?_) (fun c30 => ?_)
      · have hs31 := mnone0 nr28 (by first | exact c30 | exact Classical.not_not.mp c30)
        exact absurd hs31.1 (by decide)
      · refine r_iconst (v := 0) hX dX4_orderMoment_27 (by decide) ?_
        refine r_goto (tgt := 46) hX dX4_orderMoment_28 (by decide) ?_
        exact r_iret hX hE dX4_orderMoment_46 (Nat.le_of_ble_eq_true rfl) (Nat.le_of_ble_eq_true rfl) ⟨_, J29, (mWF2 eJ29 hJ), ((congrArg Prod.fst eJ29).trans rfl), rfl, rfl⟩
theorem dX4_isMoment_0 : decode cX4_isMoment 0 = .ok (.aload_n 0, 1) := by decide +kernel
theorem dX4_isMoment_1 : decode cX4_isMoment 1 = .ok (.iload_n 1, 1) := by decide +kernel
theorem dX4_isMoment_2 : decode cX4_isMoment 2 = .ok (.invokestatic 61, 3) := by decide +kernel
theorem dX4_isMoment_5 : decode cX4_isMoment 5 = .ok (.ifCond .ne 10, 3) := by decide +kernel
theorem dX4_isMoment_8 : decode cX4_isMoment 8 = .ok (.iload_n 2, 1) := by decide +kernel
theorem dX4_isMoment_9 : decode cX4_isMoment 9 = .ok (.invokestatic 61, 3) := by decide +kernel
theorem dX4_isMoment_12 : decode cX4_isMoment 12 = .ok (.ifCond .eq 7, 3) := by decide +kernel
theorem dX4_isMoment_15 : decode cX4_isMoment 15 = .ok (.iconst 1, 1) := by decide +kernel
theorem dX4_isMoment_16 : decode cX4_isMoment 16 = .ok (.goto 4, 3) := by decide +kernel
theorem dX4_isMoment_19 : decode cX4_isMoment 19 = .ok (.iconst 0, 1) := by decide +kernel
theorem dX4_isMoment_20 : decode cX4_isMoment 20 = .ok (.iload_n 3, 1) := by decide +kernel
theorem dX4_isMoment_21 : decode cX4_isMoment 21 = .ok (.i2l, 1) := by decide +kernel
theorem dX4_isMoment_22 : decode cX4_isMoment 22 = .ok (.lconst 0, 1) := by decide +kernel
theorem dX4_isMoment_23 : decode cX4_isMoment 23 = .ok (.ldc2_w 42, 3) := by decide +kernel
theorem dX4_isMoment_26 : decode cX4_isMoment 26 = .ok (.invokestatic 38, 3) := by decide +kernel
theorem dX4_isMoment_29 : decode cX4_isMoment 29 = .ok (.ifCond .ne 7, 3) := by decide +kernel
theorem dX4_isMoment_32 : decode cX4_isMoment 32 = .ok (.iconst 1, 1) := by decide +kernel
theorem dX4_isMoment_33 : decode cX4_isMoment 33 = .ok (.goto 4, 3) := by decide +kernel
theorem dX4_isMoment_36 : decode cX4_isMoment 36 = .ok (.iconst 0, 1) := by decide +kernel
theorem dX4_isMoment_37 : decode cX4_isMoment 37 = .ok (.invokevirtual 68, 3) := by decide +kernel
theorem dX4_isMoment_40 : decode cX4_isMoment 40 = .ok (.ifCond .eq 5, 3) := by decide +kernel
theorem dX4_isMoment_43 : decode cX4_isMoment 43 = .ok (.iconst 0, 1) := by decide +kernel
theorem dX4_isMoment_44 : decode cX4_isMoment 44 = .ok (.ireturn, 1) := by decide +kernel
theorem dX4_isMoment_45 : decode cX4_isMoment 45 = .ok (.aload_n 0, 1) := by decide +kernel
theorem dX4_isMoment_46 : decode cX4_isMoment 46 = .ok (.getfield 13, 3) := by decide +kernel
theorem dX4_isMoment_49 : decode cX4_isMoment 49 = .ok (.iload_n 1, 1) := by decide +kernel
theorem dX4_isMoment_50 : decode cX4_isMoment 50 = .ok (.laload, 1) := by decide +kernel
theorem dX4_isMoment_51 : decode cX4_isMoment 51 = .ok (.aload_n 0, 1) := by decide +kernel
theorem dX4_isMoment_52 : decode cX4_isMoment 52 = .ok (.getfield 13, 3) := by decide +kernel
theorem dX4_isMoment_55 : decode cX4_isMoment 55 = .ok (.iload_n 2, 1) := by decide +kernel
theorem dX4_isMoment_56 : decode cX4_isMoment 56 = .ok (.laload, 1) := by decide +kernel
theorem dX4_isMoment_57 : decode cX4_isMoment 57 = .ok (.invokestatic 88, 3) := by decide +kernel
theorem dX4_isMoment_60 : decode cX4_isMoment 60 = .ok (.iload_n 3, 1) := by decide +kernel
theorem dX4_isMoment_61 : decode cX4_isMoment 61 = .ok (.ifCond .ne 7, 3) := by decide +kernel
theorem dX4_isMoment_64 : decode cX4_isMoment 64 = .ok (.iconst (-1), 1) := by decide +kernel
theorem dX4_isMoment_65 : decode cX4_isMoment 65 = .ok (.goto 13, 3) := by decide +kernel
theorem dX4_isMoment_68 : decode cX4_isMoment 68 = .ok (.iload_n 3, 1) := by decide +kernel
theorem dX4_isMoment_69 : decode cX4_isMoment 69 = .ok (.iconst 1, 1) := by decide +kernel
theorem dX4_isMoment_70 : decode cX4_isMoment 70 = .ok (.if_icmp .ne 7, 3) := by decide +kernel
theorem dX4_isMoment_73 : decode cX4_isMoment 73 = .ok (.iconst 1, 1) := by decide +kernel
theorem dX4_isMoment_74 : decode cX4_isMoment 74 = .ok (.goto 4, 3) := by decide +kernel
theorem dX4_isMoment_77 : decode cX4_isMoment 77 = .ok (.iconst 0, 1) := by decide +kernel
theorem dX4_isMoment_78 : decode cX4_isMoment 78 = .ok (.if_icmp .ne 7, 3) := by decide +kernel
theorem dX4_isMoment_81 : decode cX4_isMoment 81 = .ok (.iconst 1, 1) := by decide +kernel
theorem dX4_isMoment_82 : decode cX4_isMoment 82 = .ok (.goto 4, 3) := by decide +kernel
theorem dX4_isMoment_85 : decode cX4_isMoment 85 = .ok (.iconst 0, 1) := by decide +kernel
theorem dX4_isMoment_86 : decode cX4_isMoment 86 = .ok (.ireturn, 1) := by decide +kernel
set_option maxHeartbeats 4000000 in
set_option maxRecDepth 20000 in
theorem c_X4_isMoment (ad ae : Nat → Nat) (cs : ClassId × ClassId × ClassId) (K : mK) (J : mJ) (rest : va_W) (hJ : mWF J) (p0 : Int32) (p1 : Int32) (p2 : Int32) : mCt (mTy cs) yX4_isMoment cX4_isMoment 4 (some .boolean) ⟨2, 0, 0, 45⟩ [.ref (ae 0), .int p0, .int p1, .int p2] (mRw ad ae cs K J rest) (mZb ad ae cs K J rest) mNo := by
  refine mCt.of (by decide +kernel) (Nat.le_of_ble_eq_true rfl) (fun X hX hE => ?_)
  have hX : mOK X RX4 cX4_isMoment 4 ⟨2, 0, 0, 45⟩ [] (mTy cs) := hX
  refine r_aload_n hX dX4_isMoment_0 rfl rfl ?_
  refine r_iload_n hX dX4_isMoment_1 rfl rfl ?_
  refine r_callS hX (c_X4_isNone _ _ _) ks_X4_61 rfl rfl (Nat.le_of_ble_eq_true rfl) ⟨(Nat.le_of_ble_eq_true rfl), (Nat.le_of_ble_eq_true rfl)⟩ ⟨(Nat.le_of_ble_eq_true rfl), (Nat.le_of_ble_eq_true rfl)⟩ dX4_isMoment_2 (fun _ _ z => False.elim z) (fun v9 ws9 h1 => ?_)
  obtain ⟨r3, nr3, rfl, hw9⟩ := h1
  subst ws9
  dsimp only [mPush]
  refine r_if_ne (tgt := 15) hX dX4_isMoment_5 (by decide) (fun c4 => ?_) (fun c4 => ?_)
  · refine r_iconst (v := 1) hX dX4_isMoment_15 (by decide) ?_
    refine r_goto (tgt := 20) hX dX4_isMoment_16 (by decide) ?_
    refine r_iload_n hX dX4_isMoment_20 rfl rfl ?_
    refine r_i2l hX dX4_isMoment_21 ?_
    refine r_lconst (v := 0) hX dX4_isMoment_22 (by decide) ?_
    refine r_ldc2 hX kc_X4_42 dX4_isMoment_23 ?_
    refine r_callS hX (c_X4_isIn _ _ _ _ _) ks_X4_38 rfl rfl (Nat.le_of_ble_eq_true rfl) ⟨(Nat.le_of_ble_eq_true rfl), (Nat.le_of_ble_eq_true rfl)⟩ ⟨(Nat.le_of_ble_eq_true rfl), (Nat.le_of_ble_eq_true rfl)⟩ dX4_isMoment_26 (fun _ _ z => False.elim z) (fun v9 ws9 h5 => ?_)
    obtain ⟨rfl, hw9⟩ := h5
    subst ws9
    dsimp only [mPush]
    refine r_if_ne (tgt := 36) hX dX4_isMoment_29 (by decide) (fun c7 => ?_) (fun c7 => ?_)
    · obtain ⟨i8, li8, hhi8, rfl⟩ := fwin 0 2 (by decide) (by decide) (by decide) (by decide) c7
      refine r_iconst (v := 0) hX dX4_isMoment_36 (by decide) ?_
      refine r_callV hX (c_X4_isStopped _ _ _ _ _ _ _ _) kv_X4_68 14 rfl rfl rfl rfl (Nat.le_of_ble_eq_true rfl) ⟨(Nat.le_of_ble_eq_true rfl), (Nat.le_of_ble_eq_true rfl)⟩ ⟨(Nat.le_of_ble_eq_true rfl), (Nat.le_of_ble_eq_true rfl)⟩ dX4_isMoment_37 (fun _ _ z => False.elim z) (fun v9 ws9 h9 => ?_)
      obtain ⟨r11, J12, nr11, etJ12, erJ12, eJ12, rfl, hw9⟩ := h9
      subst ws9
      dsimp only [mPush]
      refine r_if_eq (tgt := 45) hX dX4_isMoment_40 (by decide) (fun c13 => ?_) (fun c13 => ?_)
      · have hs14 := mnone0 nr11 (by first | exact c13 | exact Classical.not_not.mp c13)
        exact absurd hs14.1 (by decide)
      · refine r_iconst (v := 0) hX dX4_isMoment_43 (by decide) ?_
        exact r_zret hX hE dX4_isMoment_44 (mB_n (Or.inl rfl)) (Nat.le_of_ble_eq_true rfl) (Nat.le_of_ble_eq_true rfl) ⟨_, J12, (Or.inl rfl), (mWF2 eJ12 hJ), ((congrArg Prod.fst eJ12).trans rfl), rfl, rfl⟩
    · refine r_iconst (v := 1) hX dX4_isMoment_32 (by decide) ?_
      refine r_goto (tgt := 37) hX dX4_isMoment_33 (by decide) ?_
      refine r_callV hX (c_X4_isStopped _ _ _ _ _ _ _ _) kv_X4_68 14 rfl rfl rfl rfl (Nat.le_of_ble_eq_true rfl) ⟨(Nat.le_of_ble_eq_true rfl), (Nat.le_of_ble_eq_true rfl)⟩ ⟨(Nat.le_of_ble_eq_true rfl), (Nat.le_of_ble_eq_true rfl)⟩ dX4_isMoment_37 (fun _ _ z => False.elim z) (fun v9 ws9 h15 => ?_)
      obtain ⟨r17, J18, nr17, etJ18, erJ18, eJ18, rfl, hw9⟩ := h15
      subst ws9
      dsimp only [mPush]
      refine r_if_eq (tgt := 45) hX dX4_isMoment_40 (by decide) (fun c19 => ?_) (fun c19 => ?_)
      · have hs20 := mnone0 nr17 (by first | exact c19 | exact Classical.not_not.mp c19)
        exact absurd hs20.1 (by decide)
      · refine r_iconst (v := 0) hX dX4_isMoment_43 (by decide) ?_
        exact r_zret hX hE dX4_isMoment_44 (mB_n (Or.inl rfl)) (Nat.le_of_ble_eq_true rfl) (Nat.le_of_ble_eq_true rfl) ⟨_, J18, (Or.inl rfl), (mWF2 eJ18 hJ), ((congrArg Prod.fst eJ18).trans rfl), rfl, rfl⟩
  · obtain ⟨i21, hhi21, rfl⟩ := mnone0 nr3 (by first | exact c4 | exact Classical.not_not.mp c4)
    refine r_iload_n hX dX4_isMoment_8 rfl rfl ?_
    refine r_callS hX (c_X4_isNone _ _ _) ks_X4_61 rfl rfl (Nat.le_of_ble_eq_true rfl) ⟨(Nat.le_of_ble_eq_true rfl), (Nat.le_of_ble_eq_true rfl)⟩ ⟨(Nat.le_of_ble_eq_true rfl), (Nat.le_of_ble_eq_true rfl)⟩ dX4_isMoment_9 (fun _ _ z => False.elim z) (fun v9 ws9 h22 => ?_)
    obtain ⟨r24, nr24, rfl, hw9⟩ := h22
    subst ws9
    dsimp only [mPush]
    refine r_if_eq (tgt := 19) hX dX4_isMoment_12 (by decide) (fun c25 => ?_) (fun c25 => ?_)
    · obtain ⟨i26, hhi26, rfl⟩ := mnone0 nr24 (by first | exact c25 | exact Classical.not_not.mp c25)
      refine r_iconst (v := 0) hX dX4_isMoment_19 (by decide) ?_
      refine r_iload_n hX dX4_isMoment_20 rfl rfl ?_
      refine r_i2l hX dX4_isMoment_21 ?_
      refine r_lconst (v := 0) hX dX4_isMoment_22 (by decide) ?_
      refine r_ldc2 hX kc_X4_42 dX4_isMoment_23 ?_
      refine r_callS hX (c_X4_isIn _ _ _ _ _) ks_X4_38 rfl rfl (Nat.le_of_ble_eq_true rfl) ⟨(Nat.le_of_ble_eq_true rfl), (Nat.le_of_ble_eq_true rfl)⟩ ⟨(Nat.le_of_ble_eq_true rfl), (Nat.le_of_ble_eq_true rfl)⟩ dX4_isMoment_26 (fun _ _ z => False.elim z) (fun v9 ws9 h27 => ?_)
      obtain ⟨rfl, hw9⟩ := h27
      subst ws9
      dsimp only [mPush]
      refine r_if_ne (tgt := 36) hX dX4_isMoment_29 (by decide) (fun c29 => ?_) (fun c29 => ?_)
      · obtain ⟨i30, li30, hhi30, rfl⟩ := fwin 0 2 (by decide) (by decide) (by decide) (by decide) c29
        refine r_iconst (v := 0) hX dX4_isMoment_36 (by decide) ?_
        refine r_callV hX (c_X4_isStopped _ _ _ _ _ _ _ _) kv_X4_68 14 rfl rfl rfl rfl (Nat.le_of_ble_eq_true rfl) ⟨(Nat.le_of_ble_eq_true rfl), (Nat.le_of_ble_eq_true rfl)⟩ ⟨(Nat.le_of_ble_eq_true rfl), (Nat.le_of_ble_eq_true rfl)⟩ dX4_isMoment_37 (fun _ _ z => False.elim z) (fun v9 ws9 h31 => ?_)
        obtain ⟨r33, J34, nr33, etJ34, erJ34, eJ34, rfl, hw9⟩ := h31
        subst ws9
        dsimp only [mPush]
        refine r_if_eq (tgt := 45) hX dX4_isMoment_40 (by decide) (fun c35 => ?_) (fun c35 => ?_)
        · have hs36 := mnone0 nr33 (by first | exact c35 | exact Classical.not_not.mp c35)
          refine r_aload_n hX dX4_isMoment_45 rfl rfl ?_
          refine r_get hX kf_X4_13 14 rfl rfl dX4_isMoment_46 ?_
          refine r_iload_n hX dX4_isMoment_49 rfl rfl ?_
          refine r_lald hX 16 1 rfl rfl (vp_in_nI hhi21 (by decide)) dX4_isMoment_50 ?_
          refine r_aload_n hX dX4_isMoment_51 rfl rfl ?_
          refine r_get hX kf_X4_13 14 rfl rfl dX4_isMoment_52 ?_
          refine r_iload_n hX dX4_isMoment_55 rfl rfl ?_
          refine r_lald hX 16 1 rfl rfl (vp_in_nI hhi26 (by decide)) dX4_isMoment_56 ?_
          refine r_callS hX (c_X4_order _ _ _ _) ks_X4_88 rfl rfl (Nat.le_of_ble_eq_true rfl) ⟨(Nat.le_of_ble_eq_true rfl), (Nat.le_of_ble_eq_true rfl)⟩ ⟨(Nat.le_of_ble_eq_true rfl), (Nat.le_of_ble_eq_true rfl)⟩ dX4_isMoment_57 (fun _ _ z => False.elim z) (fun v9 ws9 h37 => ?_)
          obtain ⟨r39, rfl, hw9⟩ := h37
          subst ws9
          dsimp only [mPush]
          refine r_iload_n hX dX4_isMoment_60 rfl rfl ?_
          refine r_if_ne (tgt := 68) hX dX4_isMoment_61 (by decide) (fun c40 => ?_) (fun c40 => ?_)
          · refine r_iload_n hX dX4_isMoment_68 rfl rfl ?_
            refine r_iconst (v := 1) hX dX4_isMoment_69 (by decide) ?_
            refine r_icmp_ne (tgt := 77) hX dX4_isMoment_70 (by decide) (fun c41 => ?_) (fun c41 => ?_)
            · refine r_iconst (v := 0) hX dX4_isMoment_77 (by decide) ?_
              refine r_icmp_ne (tgt := 85) hX dX4_isMoment_78 (by decide) (fun c42 => ?_) (fun c42 => ?_)
              · refine r_iconst (v := 0) hX dX4_isMoment_85 (by decide) ?_
                exact r_zret hX hE dX4_isMoment_86 (mB_n (Or.inl rfl)) (Nat.le_of_ble_eq_true rfl) (Nat.le_of_ble_eq_true rfl) ⟨_, J34, (Or.inl rfl), (mWF2 eJ34 hJ), ((congrArg Prod.fst eJ34).trans rfl), rfl, rfl⟩
              · refine r_iconst (v := 1) hX dX4_isMoment_81 (by decide) ?_
                refine r_goto (tgt := 86) hX dX4_isMoment_82 (by decide) ?_
                exact r_zret hX hE dX4_isMoment_86 (mB_n (Or.inr rfl)) (Nat.le_of_ble_eq_true rfl) (Nat.le_of_ble_eq_true rfl) ⟨_, J34, (Or.inr rfl), (mWF2 eJ34 hJ), ((congrArg Prod.fst eJ34).trans rfl), rfl, rfl⟩
            · refine r_iconst (v := 1) hX dX4_isMoment_73 (by decide) ?_
              refine r_goto (tgt := 78) hX dX4_isMoment_74 (by decide) ?_
              refine r_icmp_ne (tgt := 85) hX dX4_isMoment_78 (by decide) (fun c43 => ?_) (fun c43 => ?_)
              · refine r_iconst (v := 0) hX dX4_isMoment_85 (by decide) ?_
                exact r_zret hX hE dX4_isMoment_86 (mB_n (Or.inl rfl)) (Nat.le_of_ble_eq_true rfl) (Nat.le_of_ble_eq_true rfl) ⟨_, J34, (Or.inl rfl), (mWF2 eJ34 hJ), ((congrArg Prod.fst eJ34).trans rfl), rfl, rfl⟩
              · refine r_iconst (v := 1) hX dX4_isMoment_81 (by decide) ?_
                refine r_goto (tgt := 86) hX dX4_isMoment_82 (by decide) ?_
                exact r_zret hX hE dX4_isMoment_86 (mB_n (Or.inr rfl)) (Nat.le_of_ble_eq_true rfl) (Nat.le_of_ble_eq_true rfl) ⟨_, J34, (Or.inr rfl), (mWF2 eJ34 hJ), ((congrArg Prod.fst eJ34).trans rfl), rfl, rfl⟩
          · refine r_iconst (v := -1) hX dX4_isMoment_64 (by decide) ?_
            refine r_goto (tgt := 78) hX dX4_isMoment_65 (by decide) ?_
            refine r_icmp_ne (tgt := 85) hX dX4_isMoment_78 (by decide) (fun c44 => ?_) (fun c44 => ?_)
            · refine r_iconst (v := 0) hX dX4_isMoment_85 (by decide) ?_
              exact r_zret hX hE dX4_isMoment_86 (mB_n (Or.inl rfl)) (Nat.le_of_ble_eq_true rfl) (Nat.le_of_ble_eq_true rfl) ⟨_, J34, (Or.inl rfl), (mWF2 eJ34 hJ), ((congrArg Prod.fst eJ34).trans rfl), rfl, rfl⟩
            · refine r_iconst (v := 1) hX dX4_isMoment_81 (by decide) ?_
              refine r_goto (tgt := 86) hX dX4_isMoment_82 (by decide) ?_
              exact r_zret hX hE dX4_isMoment_86 (mB_n (Or.inr rfl)) (Nat.le_of_ble_eq_true rfl) (Nat.le_of_ble_eq_true rfl) ⟨_, J34, (Or.inr rfl), (mWF2 eJ34 hJ), ((congrArg Prod.fst eJ34).trans rfl), rfl, rfl⟩
        · refine r_iconst (v := 0) hX dX4_isMoment_43 (by decide) ?_
          exact r_zret hX hE dX4_isMoment_44 (mB_n (Or.inl rfl)) (Nat.le_of_ble_eq_true rfl) (Nat.le_of_ble_eq_true rfl) ⟨_, J34, (Or.inl rfl), (mWF2 eJ34 hJ), ((congrArg Prod.fst eJ34).trans rfl), rfl, rfl⟩
      · refine r_iconst (v := 1) hX dX4_isMoment_32 (by decide) ?_
        refine r_goto (tgt := 37) hX dX4_isMoment_33 (by decide) ?_
        refine r_callV hX (c_X4_isStopped _ _ _ _ _ _ _ _) kv_X4_68 14 rfl rfl rfl rfl (Nat.le_of_ble_eq_true rfl) ⟨(Nat.le_of_ble_eq_true rfl), (Nat.le_of_ble_eq_true rfl)⟩ ⟨(Nat.le_of_ble_eq_true rfl), (Nat.le_of_ble_eq_true rfl)⟩ dX4_isMoment_37 (fun _ _ z => False.elim z) (fun v9 ws9 h45 => ?_)
        obtain ⟨r47, J48, nr47, etJ48, erJ48, eJ48, rfl, hw9⟩ := h45
        subst ws9
        dsimp only [mPush]
        refine r_if_eq (tgt := 45) hX dX4_isMoment_40 (by decide) (fun c49 => ?_) (fun c49 => ?_)
        · have hs50 := mnone0 nr47 (by first | exact c49 | exact Classical.not_not.mp c49)
          exact absurd hs50.2 (by decide)
        · refine r_iconst (v := 0) hX dX4_isMoment_43 (by decide) ?_
          exact r_zret hX hE dX4_isMoment_44 (mB_n (Or.inl rfl)) (Nat.le_of_ble_eq_true rfl) (Nat.le_of_ble_eq_true rfl) ⟨_, J48, (Or.inl rfl), (mWF2 eJ48 hJ), ((congrArg Prod.fst eJ48).trans rfl), rfl, rfl⟩
    · refine r_iconst (v := 1) hX dX4_isMoment_15 (by decide) ?_
      refine r_goto (tgt := 20) hX dX4_isMoment_16 (by decide) ?_
      refine r_iload_n hX dX4_isMoment_20 rfl rfl ?_
      refine r_i2l hX dX4_isMoment_21 ?_
      refine r_lconst (v := 0) hX dX4_isMoment_22 (by decide) ?_
      refine r_ldc2 hX kc_X4_42 dX4_isMoment_23 ?_
      refine r_callS hX (c_X4_isIn _ _ _ _ _) ks_X4_38 rfl rfl (Nat.le_of_ble_eq_true rfl) ⟨(Nat.le_of_ble_eq_true rfl), (Nat.le_of_ble_eq_true rfl)⟩ ⟨(Nat.le_of_ble_eq_true rfl), (Nat.le_of_ble_eq_true rfl)⟩ dX4_isMoment_26 (fun _ _ z => False.elim z) (fun v9 ws9 h51 => ?_)
      obtain ⟨rfl, hw9⟩ := h51
      subst ws9
      dsimp only [mPush]
      refine r_if_ne (tgt := 36) hX dX4_isMoment_29 (by decide) (fun c53 => ?_) (fun c53 => ?_)
      · obtain ⟨i54, li54, hhi54, rfl⟩ := fwin 0 2 (by decide) (by decide) (by decide) (by decide) c53
        refine r_iconst (v := 0) hX dX4_isMoment_36 (by decide) ?_
        refine r_callV hX (c_X4_isStopped _ _ _ _ _ _ _ _) kv_X4_68 14 rfl rfl rfl rfl (Nat.le_of_ble_eq_true rfl) ⟨(Nat.le_of_ble_eq_true rfl), (Nat.le_of_ble_eq_true rfl)⟩ ⟨(Nat.le_of_ble_eq_true rfl), (Nat.le_of_ble_eq_true rfl)⟩ dX4_isMoment_37 (fun _ _ z => False.elim z) (fun v9 ws9 h55 => ?_)
        obtain ⟨r57, J58, nr57, etJ58, erJ58, eJ58, rfl, hw9⟩ := h55
        subst ws9
        dsimp only [mPush]
        refine r_if_eq (tgt := 45) hX dX4_isMoment_40 (by decide) (fun c59 => ?_) (fun c59 => ?_)
        · have hs60 := mnone0 nr57 (by first | exact c59 | exact Classical.not_not.mp c59)
          exact absurd hs60.1 (by decide)
        · refine r_iconst (v := 0) hX dX4_isMoment_43 (by decide) ?_
          exact r_zret hX hE dX4_isMoment_44 (mB_n (Or.inl rfl)) (Nat.le_of_ble_eq_true rfl) (Nat.le_of_ble_eq_true rfl) ⟨_, J58, (Or.inl rfl), (mWF2 eJ58 hJ), ((congrArg Prod.fst eJ58).trans rfl), rfl, rfl⟩
      · refine r_iconst (v := 1) hX dX4_isMoment_32 (by decide) ?_
        refine r_goto (tgt := 37) hX dX4_isMoment_33 (by decide) ?_
        refine r_callV hX (c_X4_isStopped _ _ _ _ _ _ _ _) kv_X4_68 14 rfl rfl rfl rfl (Nat.le_of_ble_eq_true rfl) ⟨(Nat.le_of_ble_eq_true rfl), (Nat.le_of_ble_eq_true rfl)⟩ ⟨(Nat.le_of_ble_eq_true rfl), (Nat.le_of_ble_eq_true rfl)⟩ dX4_isMoment_37 (fun _ _ z => False.elim z) (fun v9 ws9 h61 => ?_)
        obtain ⟨r63, J64, nr63, etJ64, erJ64, eJ64, rfl, hw9⟩ := h61
        subst ws9
        dsimp only [mPush]
        refine r_if_eq (tgt := 45) hX dX4_isMoment_40 (by decide) (fun c65 => ?_) (fun c65 => ?_)
        · have hs66 := mnone0 nr63 (by first | exact c65 | exact Classical.not_not.mp c65)
          exact absurd hs66.1 (by decide)
        · refine r_iconst (v := 0) hX dX4_isMoment_43 (by decide) ?_
          exact r_zret hX hE dX4_isMoment_44 (mB_n (Or.inl rfl)) (Nat.le_of_ble_eq_true rfl) (Nat.le_of_ble_eq_true rfl) ⟨_, J64, (Or.inl rfl), (mWF2 eJ64 hJ), ((congrArg Prod.fst eJ64).trans rfl), rfl, rfl⟩
theorem dX4_seconds_0 : decode cX4_seconds 0 = .ok (.aload_n 0, 1) := by decide +kernel
theorem dX4_seconds_1 : decode cX4_seconds 1 = .ok (.iload_n 1, 1) := by decide +kernel
theorem dX4_seconds_2 : decode cX4_seconds 2 = .ok (.invokestatic 61, 3) := by decide +kernel
theorem dX4_seconds_5 : decode cX4_seconds 5 = .ok (.iconst 0, 1) := by decide +kernel
theorem dX4_seconds_6 : decode cX4_seconds 6 = .ok (.invokevirtual 68, 3) := by decide +kernel
theorem dX4_seconds_9 : decode cX4_seconds 9 = .ok (.ifCond .eq 7, 3) := by decide +kernel
theorem dX4_seconds_12 : decode cX4_seconds 12 = .ok (.iconst 0, 1) := by decide +kernel
theorem dX4_seconds_13 : decode cX4_seconds 13 = .ok (.goto 9, 3) := by decide +kernel
theorem dX4_seconds_16 : decode cX4_seconds 16 = .ok (.aload_n 0, 1) := by decide +kernel
theorem dX4_seconds_17 : decode cX4_seconds 17 = .ok (.getfield 7, 3) := by decide +kernel
theorem dX4_seconds_20 : decode cX4_seconds 20 = .ok (.iload_n 1, 1) := by decide +kernel
theorem dX4_seconds_21 : decode cX4_seconds 21 = .ok (.iaload, 1) := by decide +kernel
theorem dX4_seconds_22 : decode cX4_seconds 22 = .ok (.ireturn, 1) := by decide +kernel
set_option maxHeartbeats 4000000 in
set_option maxRecDepth 20000 in
theorem c_X4_seconds (ad ae : Nat → Nat) (cs : ClassId × ClassId × ClassId) (K : mK) (J : mJ) (rest : va_W) (hJ : mWF J) (p0 : Int32) : mCt (mTy cs) yX4_seconds cX4_seconds 2 (some .int) ⟨2, 0, 0, 45⟩ [.ref (ae 0), .int p0] (mRw ad ae cs K J rest) (mZi ad ae cs K J rest) mNo := by
  refine mCt.of (by decide +kernel) (Nat.le_of_ble_eq_true rfl) (fun X hX hE => ?_)
  have hX : mOK X RX4 cX4_seconds 2 ⟨2, 0, 0, 45⟩ [] (mTy cs) := hX
  refine r_aload_n hX dX4_seconds_0 rfl rfl ?_
  refine r_iload_n hX dX4_seconds_1 rfl rfl ?_
  refine r_callS hX (c_X4_isNone _ _ _) ks_X4_61 rfl rfl (Nat.le_of_ble_eq_true rfl) ⟨(Nat.le_of_ble_eq_true rfl), (Nat.le_of_ble_eq_true rfl)⟩ ⟨(Nat.le_of_ble_eq_true rfl), (Nat.le_of_ble_eq_true rfl)⟩ dX4_seconds_2 (fun _ _ z => False.elim z) (fun v9 ws9 h1 => ?_)
  obtain ⟨r3, nr3, rfl, hw9⟩ := h1
  subst ws9
  dsimp only [mPush]
  refine r_iconst (v := 0) hX dX4_seconds_5 (by decide) ?_
  refine r_callV hX (c_X4_isStopped _ _ _ _ _ _ _ _) kv_X4_68 14 rfl rfl rfl rfl (Nat.le_of_ble_eq_true rfl) ⟨(Nat.le_of_ble_eq_true rfl), (Nat.le_of_ble_eq_true rfl)⟩ ⟨(Nat.le_of_ble_eq_true rfl), (Nat.le_of_ble_eq_true rfl)⟩ dX4_seconds_6 (fun _ _ z => False.elim z) (fun v9 ws9 h4 => ?_)
  obtain ⟨r6, J7, nr6, etJ7, erJ7, eJ7, rfl, hw9⟩ := h4
  subst ws9
  dsimp only [mPush]
  refine r_if_eq (tgt := 16) hX dX4_seconds_9 (by decide) (fun c8 => ?_) (fun c8 => ?_)
  · have hs9 := mnone0 nr6 (by first | exact c8 | exact Classical.not_not.mp c8)
    obtain ⟨i10, hhi10, rfl⟩ := mnone0 nr3 hs9.1
    refine r_aload_n hX dX4_seconds_16 rfl rfl ?_
    refine r_get hX kf_X4_7 14 rfl rfl dX4_seconds_17 ?_
    refine r_iload_n hX dX4_seconds_20 rfl rfl ?_
    refine r_iald hX 15 0 rfl rfl (vp_in_nI hhi10 (by decide)) dX4_seconds_21 ?_
    exact r_iret hX hE dX4_seconds_22 (Nat.le_of_ble_eq_true rfl) (Nat.le_of_ble_eq_true rfl) ⟨_, J7, (mWF2 eJ7 hJ), ((congrArg Prod.fst eJ7).trans rfl), rfl, rfl⟩
  · refine r_iconst (v := 0) hX dX4_seconds_12 (by decide) ?_
    refine r_goto (tgt := 22) hX dX4_seconds_13 (by decide) ?_
    exact r_iret hX hE dX4_seconds_22 (Nat.le_of_ble_eq_true rfl) (Nat.le_of_ble_eq_true rfl) ⟨_, J7, (mWF2 eJ7 hJ), ((congrArg Prod.fst eJ7).trans rfl), rfl, rfl⟩
theorem dX4_orderOffset_0 : decode cX4_orderOffset 0 = .ok (.aload_n 0, 1) := by decide +kernel
theorem dX4_orderOffset_1 : decode cX4_orderOffset 1 = .ok (.iload_n 1, 1) := by decide +kernel
theorem dX4_orderOffset_2 : decode cX4_orderOffset 2 = .ok (.invokestatic 61, 3) := by decide +kernel
theorem dX4_orderOffset_5 : decode cX4_orderOffset 5 = .ok (.ifCond .ne 10, 3) := by decide +kernel
theorem dX4_orderOffset_8 : decode cX4_orderOffset 8 = .ok (.iload_n 2, 1) := by decide +kernel
theorem dX4_orderOffset_9 : decode cX4_orderOffset 9 = .ok (.invokestatic 61, 3) := by decide +kernel
theorem dX4_orderOffset_12 : decode cX4_orderOffset 12 = .ok (.ifCond .eq 7, 3) := by decide +kernel
theorem dX4_orderOffset_15 : decode cX4_orderOffset 15 = .ok (.iconst 1, 1) := by decide +kernel
theorem dX4_orderOffset_16 : decode cX4_orderOffset 16 = .ok (.goto 4, 3) := by decide +kernel
theorem dX4_orderOffset_19 : decode cX4_orderOffset 19 = .ok (.iconst 0, 1) := by decide +kernel
theorem dX4_orderOffset_20 : decode cX4_orderOffset 20 = .ok (.iconst 0, 1) := by decide +kernel
theorem dX4_orderOffset_21 : decode cX4_orderOffset 21 = .ok (.invokevirtual 68, 3) := by decide +kernel
theorem dX4_orderOffset_24 : decode cX4_orderOffset 24 = .ok (.ifCond .eq 7, 3) := by decide +kernel
theorem dX4_orderOffset_27 : decode cX4_orderOffset 27 = .ok (.iconst 0, 1) := by decide +kernel
theorem dX4_orderOffset_28 : decode cX4_orderOffset 28 = .ok (.goto 20, 3) := by decide +kernel
theorem dX4_orderOffset_31 : decode cX4_orderOffset 31 = .ok (.aload_n 0, 1) := by decide +kernel
theorem dX4_orderOffset_32 : decode cX4_orderOffset 32 = .ok (.getfield 7, 3) := by decide +kernel
theorem dX4_orderOffset_35 : decode cX4_orderOffset 35 = .ok (.iload_n 2, 1) := by decide +kernel
theorem dX4_orderOffset_36 : decode cX4_orderOffset 36 = .ok (.iaload, 1) := by decide +kernel
theorem dX4_orderOffset_37 : decode cX4_orderOffset 37 = .ok (.i2l, 1) := by decide +kernel
theorem dX4_orderOffset_38 : decode cX4_orderOffset 38 = .ok (.aload_n 0, 1) := by decide +kernel
theorem dX4_orderOffset_39 : decode cX4_orderOffset 39 = .ok (.getfield 7, 3) := by decide +kernel
theorem dX4_orderOffset_42 : decode cX4_orderOffset 42 = .ok (.iload_n 1, 1) := by decide +kernel
theorem dX4_orderOffset_43 : decode cX4_orderOffset 43 = .ok (.iaload, 1) := by decide +kernel
theorem dX4_orderOffset_44 : decode cX4_orderOffset 44 = .ok (.i2l, 1) := by decide +kernel
theorem dX4_orderOffset_45 : decode cX4_orderOffset 45 = .ok (.invokestatic 88, 3) := by decide +kernel
theorem dX4_orderOffset_48 : decode cX4_orderOffset 48 = .ok (.ireturn, 1) := by decide +kernel
set_option maxHeartbeats 4000000 in
set_option maxRecDepth 20000 in
theorem c_X4_orderOffset (ad ae : Nat → Nat) (cs : ClassId × ClassId × ClassId) (K : mK) (J : mJ) (rest : va_W) (hJ : mWF J) (p0 : Int32) (p1 : Int32) : mCt (mTy cs) yX4_orderOffset cX4_orderOffset 3 (some .int) ⟨2, 0, 0, 45⟩ [.ref (ae 0), .int p0, .int p1] (mRw ad ae cs K J rest) (mZi ad ae cs K J rest) mNo := by
  refine mCt.of (by decide +kernel) (Nat.le_of_ble_eq_true rfl) (fun X hX hE => ?_)
  have hX : mOK X RX4 cX4_orderOffset 3 ⟨2, 0, 0, 45⟩ [] (mTy cs) := hX
  refine r_aload_n hX dX4_orderOffset_0 rfl rfl ?_
  refine r_iload_n hX dX4_orderOffset_1 rfl rfl ?_
  refine r_callS hX (c_X4_isNone _ _ _) ks_X4_61 rfl rfl (Nat.le_of_ble_eq_true rfl) ⟨(Nat.le_of_ble_eq_true rfl), (Nat.le_of_ble_eq_true rfl)⟩ ⟨(Nat.le_of_ble_eq_true rfl), (Nat.le_of_ble_eq_true rfl)⟩ dX4_orderOffset_2 (fun _ _ z => False.elim z) (fun v9 ws9 h1 => ?_)
  obtain ⟨r3, nr3, rfl, hw9⟩ := h1
  subst ws9
  dsimp only [mPush]
  refine r_if_ne (tgt := 15) hX dX4_orderOffset_5 (by decide) (fun c4 => ?_) (fun c4 => ?_)
  · refine r_iconst (v := 1) hX dX4_orderOffset_15 (by decide) ?_
    refine r_goto (tgt := 20) hX dX4_orderOffset_16 (by decide) ?_
    refine r_iconst (v := 0) hX dX4_orderOffset_20 (by decide) ?_
    refine r_callV hX (c_X4_isStopped _ _ _ _ _ _ _ _) kv_X4_68 14 rfl rfl rfl rfl (Nat.le_of_ble_eq_true rfl) ⟨(Nat.le_of_ble_eq_true rfl), (Nat.le_of_ble_eq_true rfl)⟩ ⟨(Nat.le_of_ble_eq_true rfl), (Nat.le_of_ble_eq_true rfl)⟩ dX4_orderOffset_21 (fun _ _ z => False.elim z) (fun v9 ws9 h5 => ?_)
    obtain ⟨r7, J8, nr7, etJ8, erJ8, eJ8, rfl, hw9⟩ := h5
    subst ws9
    dsimp only [mPush]
    refine r_if_eq (tgt := 31) hX dX4_orderOffset_24 (by decide) (fun c9 => ?_) (fun c9 => ?_)
    · have hs10 := mnone0 nr7 (by first | exact c9 | exact Classical.not_not.mp c9)
      exact absurd hs10.1 (by decide)
    · refine r_iconst (v := 0) hX dX4_orderOffset_27 (by decide) ?_
      refine r_goto (tgt := 48) hX dX4_orderOffset_28 (by decide) ?_
      exact r_iret hX hE dX4_orderOffset_48 (Nat.le_of_ble_eq_true rfl) (Nat.le_of_ble_eq_true rfl) ⟨_, J8, (mWF2 eJ8 hJ), ((congrArg Prod.fst eJ8).trans rfl), rfl, rfl⟩
  · obtain ⟨i11, hhi11, rfl⟩ := mnone0 nr3 (by first | exact c4 | exact Classical.not_not.mp c4)
    refine r_iload_n hX dX4_orderOffset_8 rfl rfl ?_
    refine r_callS hX (c_X4_isNone _ _ _) ks_X4_61 rfl rfl (Nat.le_of_ble_eq_true rfl) ⟨(Nat.le_of_ble_eq_true rfl), (Nat.le_of_ble_eq_true rfl)⟩ ⟨(Nat.le_of_ble_eq_true rfl), (Nat.le_of_ble_eq_true rfl)⟩ dX4_orderOffset_9 (fun _ _ z => False.elim z) (fun v9 ws9 h12 => ?_)
    obtain ⟨r14, nr14, rfl, hw9⟩ := h12
    subst ws9
    dsimp only [mPush]
    refine r_if_eq (tgt := 19) hX dX4_orderOffset_12 (by decide) (fun c15 => ?_) (fun c15 => ?_)
    · obtain ⟨i16, hhi16, rfl⟩ := mnone0 nr14 (by first | exact c15 | exact Classical.not_not.mp c15)
      refine r_iconst (v := 0) hX dX4_orderOffset_19 (by decide) ?_
      refine r_iconst (v := 0) hX dX4_orderOffset_20 (by decide) ?_
      refine r_callV hX (c_X4_isStopped _ _ _ _ _ _ _ _) kv_X4_68 14 rfl rfl rfl rfl (Nat.le_of_ble_eq_true rfl) ⟨(Nat.le_of_ble_eq_true rfl), (Nat.le_of_ble_eq_true rfl)⟩ ⟨(Nat.le_of_ble_eq_true rfl), (Nat.le_of_ble_eq_true rfl)⟩ dX4_orderOffset_21 (fun _ _ z => False.elim z) (fun v9 ws9 h17 => ?_)
      obtain ⟨r19, J20, nr19, etJ20, erJ20, eJ20, rfl, hw9⟩ := h17
      subst ws9
      dsimp only [mPush]
      refine r_if_eq (tgt := 31) hX dX4_orderOffset_24 (by decide) (fun c21 => ?_) (fun c21 => ?_)
      · have hs22 := mnone0 nr19 (by first | exact c21 | exact Classical.not_not.mp c21)
        refine r_aload_n hX dX4_orderOffset_31 rfl rfl ?_
        refine r_get hX kf_X4_7 14 rfl rfl dX4_orderOffset_32 ?_
        refine r_iload_n hX dX4_orderOffset_35 rfl rfl ?_
        refine r_iald hX 15 0 rfl rfl (vp_in_nI hhi16 (by decide)) dX4_orderOffset_36 ?_
        refine r_i2l hX dX4_orderOffset_37 ?_
        refine r_aload_n hX dX4_orderOffset_38 rfl rfl ?_
        refine r_get hX kf_X4_7 14 rfl rfl dX4_orderOffset_39 ?_
        refine r_iload_n hX dX4_orderOffset_42 rfl rfl ?_
        refine r_iald hX 15 0 rfl rfl (vp_in_nI hhi11 (by decide)) dX4_orderOffset_43 ?_
        refine r_i2l hX dX4_orderOffset_44 ?_
        refine r_callS hX (c_X4_order _ _ _ _) ks_X4_88 rfl rfl (Nat.le_of_ble_eq_true rfl) ⟨(Nat.le_of_ble_eq_true rfl), (Nat.le_of_ble_eq_true rfl)⟩ ⟨(Nat.le_of_ble_eq_true rfl), (Nat.le_of_ble_eq_true rfl)⟩ dX4_orderOffset_45 (fun _ _ z => False.elim z) (fun v9 ws9 h23 => ?_)
        obtain ⟨r25, rfl, hw9⟩ := h23
        subst ws9
        dsimp only [mPush]
        exact r_iret hX hE dX4_orderOffset_48 (Nat.le_of_ble_eq_true rfl) (Nat.le_of_ble_eq_true rfl) ⟨_, J20, (mWF2 eJ20 hJ), ((congrArg Prod.fst eJ20).trans rfl), rfl, rfl⟩
      · refine r_iconst (v := 0) hX dX4_orderOffset_27 (by decide) ?_
        refine r_goto (tgt := 48) hX dX4_orderOffset_28 (by decide) ?_
        exact r_iret hX hE dX4_orderOffset_48 (Nat.le_of_ble_eq_true rfl) (Nat.le_of_ble_eq_true rfl) ⟨_, J20, (mWF2 eJ20 hJ), ((congrArg Prod.fst eJ20).trans rfl), rfl, rfl⟩
    · refine r_iconst (v := 1) hX dX4_orderOffset_15 (by decide) ?_
      refine r_goto (tgt := 20) hX dX4_orderOffset_16 (by decide) ?_
      refine r_iconst (v := 0) hX dX4_orderOffset_20 (by decide) ?_
      refine r_callV hX (c_X4_isStopped _ _ _ _ _ _ _ _) kv_X4_68 14 rfl rfl rfl rfl (Nat.le_of_ble_eq_true rfl) ⟨(Nat.le_of_ble_eq_true rfl), (Nat.le_of_ble_eq_true rfl)⟩ ⟨(Nat.le_of_ble_eq_true rfl), (Nat.le_of_ble_eq_true rfl)⟩ dX4_orderOffset_21 (fun _ _ z => False.elim z) (fun v9 ws9 h26 => ?_)
      obtain ⟨r28, J29, nr28, etJ29, erJ29, eJ29, rfl, hw9⟩ := h26
      subst ws9
      dsimp only [mPush]
      refine r_if_eq (tgt := 31) hX dX4_orderOffset_24 (by decide) (fun c30 => ?_) (fun c30 => ?_)
      · have hs31 := mnone0 nr28 (by first | exact c30 | exact Classical.not_not.mp c30)
        exact absurd hs31.1 (by decide)
      · refine r_iconst (v := 0) hX dX4_orderOffset_27 (by decide) ?_
        refine r_goto (tgt := 48) hX dX4_orderOffset_28 (by decide) ?_
        exact r_iret hX hE dX4_orderOffset_48 (Nat.le_of_ble_eq_true rfl) (Nat.le_of_ble_eq_true rfl) ⟨_, J29, (mWF2 eJ29 hJ), ((congrArg Prod.fst eJ29).trans rfl), rfl, rfl⟩
theorem dX4_put_0 : decode cX4_put 0 = .ok (.aload_n 0, 1) := by decide +kernel
theorem dX4_put_1 : decode cX4_put 1 = .ok (.getfield 17, 3) := by decide +kernel
theorem dX4_put_4 : decode cX4_put 4 = .ok (.iload_n 1, 1) := by decide +kernel
theorem dX4_put_5 : decode cX4_put 5 = .ok (.iload_n 2, 1) := by decide +kernel
theorem dX4_put_6 : decode cX4_put 6 = .ok (.iastore, 1) := by decide +kernel
theorem dX4_put_7 : decode cX4_put 7 = .ok (.aload_n 0, 1) := by decide +kernel
theorem dX4_put_8 : decode cX4_put 8 = .ok (.getfield 20, 3) := by decide +kernel
theorem dX4_put_11 : decode cX4_put 11 = .ok (.iload_n 1, 1) := by decide +kernel
theorem dX4_put_12 : decode cX4_put 12 = .ok (.iload_n 3, 1) := by decide +kernel
theorem dX4_put_13 : decode cX4_put 13 = .ok (.iastore, 1) := by decide +kernel
theorem dX4_put_14 : decode cX4_put 14 = .ok (.aload_n 0, 1) := by decide +kernel
theorem dX4_put_15 : decode cX4_put 15 = .ok (.getfield 23, 3) := by decide +kernel
theorem dX4_put_18 : decode cX4_put 18 = .ok (.iload_n 1, 1) := by decide +kernel
theorem dX4_put_19 : decode cX4_put 19 = .ok (.iload 4, 2) := by decide +kernel
theorem dX4_put_21 : decode cX4_put 21 = .ok (.iastore, 1) := by decide +kernel
theorem dX4_put_22 : decode cX4_put 22 = .ok (.aload_n 0, 1) := by decide +kernel
theorem dX4_put_23 : decode cX4_put 23 = .ok (.getfield 26, 3) := by decide +kernel
theorem dX4_put_26 : decode cX4_put 26 = .ok (.iload_n 1, 1) := by decide +kernel
theorem dX4_put_27 : decode cX4_put 27 = .ok (.iload 5, 2) := by decide +kernel
theorem dX4_put_29 : decode cX4_put 29 = .ok (.iastore, 1) := by decide +kernel
theorem dX4_put_30 : decode cX4_put 30 = .ok (.iload_n 2, 1) := by decide +kernel
theorem dX4_put_31 : decode cX4_put 31 = .ok (.ireturn, 1) := by decide +kernel
set_option maxHeartbeats 4000000 in
set_option maxRecDepth 20000 in
theorem c_X4_put (ad ae : Nat → Nat) (cs : ClassId × ClassId × ClassId) (K : mK) (J : mJ) (rest : va_W) (hJ : mWF J) (j0 : Nat) (hj0 : j0 < 7) (p1 : Int32) (p2 : Int32) (p3 : Int32) (p4 : Int32) (hd : ∃ d : Int, p1 = iZ d ∧ -21915 ≤ d ∧ d ≤ 22279) : mCt (mTy cs) yX4_put cX4_put 6 (some .int) ⟨0, 0, 0, 0⟩ [.ref (ae 0), .int (nI j0), .int p1, .int p2, .int p3, .int p4] (mRw ad ae cs K J rest) (mZi ad ae cs K J rest) mNo := by
  refine mCt.of (by decide +kernel) (Nat.le_of_ble_eq_true rfl) (fun X hX hE => ?_)
  have hX : mOK X RX4 cX4_put 6 ⟨0, 0, 0, 0⟩ [] (mTy cs) := hX
  refine r_aload_n hX dX4_put_0 rfl rfl ?_
  refine r_get hX kf_X4_17 14 rfl rfl dX4_put_1 ?_
  refine r_iload_n hX dX4_put_4 rfl rfl ?_
  refine r_iload_n hX dX4_put_5 rfl rfl ?_
  refine r_iast hX 17 0 rfl rfl (vp_in_nI hj0 (by decide)) dX4_put_6 ?_
  refine r_eqw (ws' := mRw ad ae cs K (J.1, J.2.1, J.2.2.1, upd J.2.2.2.1 ((nI j0)).toNatClampNeg p1, J.2.2.2.2.1, J.2.2.2.2.2.1, J.2.2.2.2.2.2) rest) rfl ?_
  refine r_aload_n hX dX4_put_7 rfl rfl ?_
  refine r_get hX kf_X4_20 14 rfl rfl dX4_put_8 ?_
  refine r_iload_n hX dX4_put_11 rfl rfl ?_
  refine r_iload_n hX dX4_put_12 rfl rfl ?_
  refine r_iast hX 18 0 rfl rfl (vp_in_nI hj0 (by decide)) dX4_put_13 ?_
  refine r_eqw (ws' := mRw ad ae cs K (J.1, J.2.1, J.2.2.1, upd J.2.2.2.1 ((nI j0)).toNatClampNeg p1, upd J.2.2.2.2.1 ((nI j0)).toNatClampNeg p2, J.2.2.2.2.2.1, J.2.2.2.2.2.2) rest) rfl ?_
  refine r_aload_n hX dX4_put_14 rfl rfl ?_
  refine r_get hX kf_X4_23 14 rfl rfl dX4_put_15 ?_
  refine r_iload_n hX dX4_put_18 rfl rfl ?_
  refine r_iload hX dX4_put_19 rfl ?_
  refine r_iast hX 19 0 rfl rfl (vp_in_nI hj0 (by decide)) dX4_put_21 ?_
  refine r_eqw (ws' := mRw ad ae cs K (J.1, J.2.1, J.2.2.1, upd J.2.2.2.1 ((nI j0)).toNatClampNeg p1, upd J.2.2.2.2.1 ((nI j0)).toNatClampNeg p2, upd J.2.2.2.2.2.1 ((nI j0)).toNatClampNeg p3, J.2.2.2.2.2.2) rest) rfl ?_
  refine r_aload_n hX dX4_put_22 rfl rfl ?_
  refine r_get hX kf_X4_26 14 rfl rfl dX4_put_23 ?_
  refine r_iload_n hX dX4_put_26 rfl rfl ?_
  refine r_iload hX dX4_put_27 rfl ?_
  refine r_iast hX 20 0 rfl rfl (vp_in_nI hj0 (by decide)) dX4_put_29 ?_
  refine r_eqw (ws' := mRw ad ae cs K (J.1, J.2.1, J.2.2.1, upd J.2.2.2.1 ((nI j0)).toNatClampNeg p1, upd J.2.2.2.2.1 ((nI j0)).toNatClampNeg p2, upd J.2.2.2.2.2.1 ((nI j0)).toNatClampNeg p3, upd J.2.2.2.2.2.2 ((nI j0)).toNatClampNeg p4) rest) rfl ?_
  refine r_iload_n hX dX4_put_30 rfl rfl ?_
  exact r_iret hX hE dX4_put_31 (Nat.le_of_ble_eq_true rfl) (Nat.le_of_ble_eq_true rfl) ⟨_, (J.1, J.2.1, J.2.2.1, upd J.2.2.2.1 ((nI j0)).toNatClampNeg p1, upd J.2.2.2.2.1 ((nI j0)).toNatClampNeg p2, upd J.2.2.2.2.2.1 ((nI j0)).toNatClampNeg p3, upd J.2.2.2.2.2.2 ((nI j0)).toNatClampNeg p4), (mWF.put hJ hd), rfl, rfl, rfl⟩
theorem dX4_put__0 : decode cX4_put_ 0 = .ok (.lload_n 2, 1) := by decide +kernel
theorem dX4_put__1 : decode cX4_put_ 1 = .ok (.lload 4, 2) := by decide +kernel
theorem dX4_put__3 : decode cX4_put_ 3 = .ok (.ldc2_w 113, 3) := by decide +kernel
theorem dX4_put__6 : decode cX4_put_ 6 = .ok (.invokestatic 92, 3) := by decide +kernel
theorem dX4_put__9 : decode cX4_put_ 9 = .ok (.ladd, 1) := by decide +kernel
theorem dX4_put__10 : decode cX4_put_ 10 = .ok (.lstore 8, 2) := by decide +kernel
theorem dX4_put__12 : decode cX4_put_ 12 = .ok (.lload 8, 2) := by decide +kernel
theorem dX4_put__14 : decode cX4_put_ 14 = .ok (.invokestatic 135, 3) := by decide +kernel
theorem dX4_put__17 : decode cX4_put_ 17 = .ok (.ifCond .eq 26, 3) := by decide +kernel
theorem dX4_put__20 : decode cX4_put_ 20 = .ok (.aload_n 0, 1) := by decide +kernel
theorem dX4_put__21 : decode cX4_put_ 21 = .ok (.iload_n 1, 1) := by decide +kernel
theorem dX4_put__22 : decode cX4_put_ 22 = .ok (.lload 8, 2) := by decide +kernel
theorem dX4_put__24 : decode cX4_put_ 24 = .ok (.l2i, 1) := by decide +kernel
theorem dX4_put__25 : decode cX4_put_ 25 = .ok (.lload 4, 2) := by decide +kernel
theorem dX4_put__27 : decode cX4_put_ 27 = .ok (.ldc2_w 113, 3) := by decide +kernel
theorem dX4_put__30 : decode cX4_put_ 30 = .ok (.invokestatic 102, 3) := by decide +kernel
theorem dX4_put__33 : decode cX4_put_ 33 = .ok (.iload 6, 2) := by decide +kernel
theorem dX4_put__35 : decode cX4_put_ 35 = .ok (.iload 7, 2) := by decide +kernel
theorem dX4_put__37 : decode cX4_put_ 37 = .ok (.invokevirtual 139, 3) := by decide +kernel
theorem dX4_put__40 : decode cX4_put_ 40 = .ok (.goto 7, 3) := by decide +kernel
theorem dX4_put__43 : decode cX4_put_ 43 = .ok (.aload_n 0, 1) := by decide +kernel
theorem dX4_put__44 : decode cX4_put_ 44 = .ok (.invokevirtual 80, 3) := by decide +kernel
theorem dX4_put__47 : decode cX4_put_ 47 = .ok (.ireturn, 1) := by decide +kernel
set_option maxHeartbeats 4000000 in
set_option maxRecDepth 20000 in
theorem c_X4_put_ (ad ae : Nat → Nat) (cs : ClassId × ClassId × ClassId) (K : mK) (J : mJ) (rest : va_W) (hJ : mWF J) (j0 : Nat) (hj0 : j0 < 4) (p1 : Int64) (p2 : Int64) (p3 : Int32) (p4 : Int32) : mCt (mTy cs) yX4_put_ cX4_put_ 10 (some .int) ⟨4, 0, 0, 91⟩ [.ref (ae 0), .int (nI j0), .long p1, .long p2, .int p3, .int p4] (mRw ad ae cs K J rest) (mZi ad ae cs K J rest) mNo := by
  refine mCt.of (by decide +kernel) (Nat.le_of_ble_eq_true rfl) (fun X hX hE => ?_)
  have hX : mOK X RX4 cX4_put_ 10 ⟨4, 0, 0, 91⟩ [] (mTy cs) := hX
  refine r_lload_n hX dX4_put__0 rfl rfl ?_
  refine r_lload hX dX4_put__1 rfl ?_
  refine r_ldc2 hX kc_X4_113 dX4_put__3 ?_
  refine r_callS hX (c_X4_whole _ _ _ _ (by decide)) ks_X4_92 rfl rfl (Nat.le_of_ble_eq_true rfl) ⟨(Nat.le_of_ble_eq_true rfl), (Nat.le_of_ble_eq_true rfl)⟩ ⟨(Nat.le_of_ble_eq_true rfl), (Nat.le_of_ble_eq_true rfl)⟩ dX4_put__6 (fun _ _ z => False.elim z) (fun v9 ws9 h1 => ?_)
  obtain ⟨r3, rfl, hw9⟩ := h1
  subst ws9
  dsimp only [mPush]
  refine r_ladd hX dX4_put__9 ?_
  refine r_lstore hX dX4_put__10 (by decide) rfl ?_
  refine r_lload hX dX4_put__12 rfl ?_
  refine r_callS hX (c_X4_isDay _ _ _) ks_X4_135 rfl rfl (Nat.le_of_ble_eq_true rfl) ⟨(Nat.le_of_ble_eq_true rfl), (Nat.le_of_ble_eq_true rfl)⟩ ⟨(Nat.le_of_ble_eq_true rfl), (Nat.le_of_ble_eq_true rfl)⟩ dX4_put__14 (fun _ _ z => False.elim z) (fun v9 ws9 h4 => ?_)
  obtain ⟨r6, nr6, rfl, hw9⟩ := h4
  subst ws9
  dsimp only [mPush]
  refine r_if_eq (tgt := 43) hX dX4_put__17 (by decide) (fun c7 => ?_) (fun c7 => ?_)
  · refine r_aload_n hX dX4_put__43 rfl rfl ?_
    refine r_callV hX (c_X4_no _ _ _ _ _ _) kv_X4_80 14 rfl rfl rfl rfl (Nat.le_of_ble_eq_true rfl) ⟨(Nat.le_of_ble_eq_true rfl), (Nat.le_of_ble_eq_true rfl)⟩ ⟨(Nat.le_of_ble_eq_true rfl), (Nat.le_of_ble_eq_true rfl)⟩ dX4_put__44 (fun _ _ z => False.elim z) (fun v9 ws9 h8 => ?_)
    obtain ⟨J10, etJ10, eJ10, rfl, hw9⟩ := h8
    subst ws9
    dsimp only [mPush]
    exact r_iret hX hE dX4_put__47 (Nat.le_of_ble_eq_true rfl) (Nat.le_of_ble_eq_true rfl) ⟨_, J10, (mWF2 eJ10 hJ), ((congrArg Prod.fst eJ10).trans rfl), rfl, rfl⟩
  · have hd11 := mnone1 nr6 c7
    refine r_aload_n hX dX4_put__20 rfl rfl ?_
    refine r_iload_n hX dX4_put__21 rfl rfl ?_
    refine r_lload hX dX4_put__22 rfl ?_
    refine r_l2i hX dX4_put__24 ?_
    refine r_lload hX dX4_put__25 rfl ?_
    refine r_ldc2 hX kc_X4_113 dX4_put__27 ?_
    refine r_callS hX (c_X4_rest _ _ _ _ (by decide)) ks_X4_102 rfl rfl (Nat.le_of_ble_eq_true rfl) ⟨(Nat.le_of_ble_eq_true rfl), (Nat.le_of_ble_eq_true rfl)⟩ ⟨(Nat.le_of_ble_eq_true rfl), (Nat.le_of_ble_eq_true rfl)⟩ dX4_put__30 (fun _ _ z => False.elim z) (fun v9 ws9 h12 => ?_)
    obtain ⟨r14, rfl, hw9⟩ := h12
    subst ws9
    dsimp only [mPush]
    refine r_iload hX dX4_put__33 rfl ?_
    refine r_iload hX dX4_put__35 rfl ?_
    refine r_callV hX (c_X4_put _ _ _ _ J _ hJ j0 (Nat.lt_of_lt_of_le hj0 (by decide)) _ _ _ _ ⟨_, (Int32.ofInt_int64ToInt _).symm, hd11.1, hd11.2⟩) kv_X4_139 14 rfl rfl rfl rfl (Nat.le_of_ble_eq_true rfl) ⟨(Nat.le_of_ble_eq_true rfl), (Nat.le_of_ble_eq_true rfl)⟩ ⟨(Nat.le_of_ble_eq_true rfl), (Nat.le_of_ble_eq_true rfl)⟩ dX4_put__37 (fun _ _ z => False.elim z) (fun v9 ws9 h15 => ?_)
    obtain ⟨r17, J18, hJ18, oJ18, rfl, hw9⟩ := h15
    subst ws9
    dsimp only [mPush]
    refine r_goto (tgt := 47) hX dX4_put__40 (by decide) ?_
    exact r_iret hX hE dX4_put__47 (Nat.le_of_ble_eq_true rfl) (Nat.le_of_ble_eq_true rfl) ⟨_, J18, hJ18, (oJ18.trans rfl), rfl, rfl⟩
