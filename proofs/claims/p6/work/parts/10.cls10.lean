/-! The class, its contracts (rows by a program of this repository). -/
theorem dX2_orderOffset_0 : decode cX2_orderOffset 0 = .ok (.aload_n 0, 1) := by decide +kernel
theorem dX2_orderOffset_1 : decode cX2_orderOffset 1 = .ok (.iload_n 2, 1) := by decide +kernel
theorem dX2_orderOffset_2 : decode cX2_orderOffset 2 = .ok (.invokevirtual 64, 3) := by decide +kernel
theorem dX2_orderOffset_5 : decode cX2_orderOffset 5 = .ok (.i2l, 1) := by decide +kernel
theorem dX2_orderOffset_6 : decode cX2_orderOffset 6 = .ok (.aload_n 0, 1) := by decide +kernel
theorem dX2_orderOffset_7 : decode cX2_orderOffset 7 = .ok (.iload_n 1, 1) := by decide +kernel
theorem dX2_orderOffset_8 : decode cX2_orderOffset 8 = .ok (.invokevirtual 64, 3) := by decide +kernel
theorem dX2_orderOffset_11 : decode cX2_orderOffset 11 = .ok (.i2l, 1) := by decide +kernel
theorem dX2_orderOffset_12 : decode cX2_orderOffset 12 = .ok (.invokestatic 68, 3) := by decide +kernel
theorem dX2_orderOffset_15 : decode cX2_orderOffset 15 = .ok (.ireturn, 1) := by decide +kernel
set_option maxHeartbeats 4000000 in
set_option maxRecDepth 20000 in
theorem c_X2_orderOffset (ad : Nat → Nat) (cs : ClassId × ClassId × ClassId) (K : mK) (rest : va_W) (p0 : Int32) (p1 : Int32) : mCt (mTy cs) yX2_orderOffset cX2_orderOffset 3 (some .int) ⟨8, 2, 12, 124⟩ [.ref (ad 0), .int p0, .int p1] (mWd ad cs K rest) (mWi ad cs K rest) (mTh [xI] (mWd ad cs K rest)) := by
  refine mCt.of (by decide +kernel) (Nat.le_of_ble_eq_true rfl) (fun X hX hE => ?_)
  have hX : mOK X RX2 cX2_orderOffset 3 ⟨8, 2, 12, 124⟩ [] (mTy cs) := hX
  refine r_aload_n hX dX2_orderOffset_0 rfl rfl ?_
  refine r_iload_n hX dX2_orderOffset_1 rfl rfl ?_
  refine r_callV hX (c_X2_seconds _ _ _ _ _) kv_X2_64 0 rfl rfl rfl rfl (Nat.le_of_ble_eq_true rfl) ⟨(Nat.le_of_ble_eq_true rfl), (Nat.le_of_ble_eq_true rfl)⟩ ⟨(Nat.le_of_ble_eq_true rfl), (Nat.le_of_ble_eq_true rfl)⟩ dX2_orderOffset_2 (fun E ws9 z => r_out hX hE (Nat.le_of_ble_eq_true rfl) (Nat.le_of_ble_eq_true rfl) (⟨by rw [z.1]; exact List.mem_cons_self, z.2.1⟩)) (fun v9 ws9 h1 => ?_)
  obtain ⟨i3, hhi3, rfl, rfl, hw9⟩ := h1
  subst ws9
  dsimp only [mPush]
  refine r_i2l hX dX2_orderOffset_5 ?_
  refine r_aload_n hX dX2_orderOffset_6 rfl rfl ?_
  refine r_iload_n hX dX2_orderOffset_7 rfl rfl ?_
  refine r_callV hX (c_X2_seconds _ _ _ _ _) kv_X2_64 0 rfl rfl rfl rfl (Nat.le_of_ble_eq_true rfl) ⟨(Nat.le_of_ble_eq_true rfl), (Nat.le_of_ble_eq_true rfl)⟩ ⟨(Nat.le_of_ble_eq_true rfl), (Nat.le_of_ble_eq_true rfl)⟩ dX2_orderOffset_8 (fun E ws9 z => r_out hX hE (Nat.le_of_ble_eq_true rfl) (Nat.le_of_ble_eq_true rfl) (⟨by rw [z.1]; exact List.mem_cons_self, z.2.1⟩)) (fun v9 ws9 h4 => ?_)
  obtain ⟨i6, hhi6, rfl, rfl, hw9⟩ := h4
  subst ws9
  dsimp only [mPush]
  refine r_i2l hX dX2_orderOffset_11 ?_
  refine r_callS hX (c_X2_compared _ _ _ _) ks_X2_68 rfl rfl (Nat.le_of_ble_eq_true rfl) ⟨(Nat.le_of_ble_eq_true rfl), (Nat.le_of_ble_eq_true rfl)⟩ ⟨(Nat.le_of_ble_eq_true rfl), (Nat.le_of_ble_eq_true rfl)⟩ dX2_orderOffset_12 (fun _ _ z => False.elim z) (fun v9 ws9 h7 => ?_)
  obtain ⟨r9, rfl, hw9⟩ := h7
  subst ws9
  dsimp only [mPush]
  exact r_iret hX hE dX2_orderOffset_15 (Nat.le_of_ble_eq_true rfl) (Nat.le_of_ble_eq_true rfl) ⟨_, K, rfl, rfl, rfl⟩
theorem dX2_moment_0 : decode cX2_moment 0 = .ok (.iload_n 1, 1) := by decide +kernel
theorem dX2_moment_1 : decode cX2_moment 1 = .ok (.aload_n 0, 1) := by decide +kernel
theorem dX2_moment_2 : decode cX2_moment 2 = .ok (.getfield 13, 3) := by decide +kernel
theorem dX2_moment_5 : decode cX2_moment 5 = .ok (.arraylength, 1) := by decide +kernel
theorem dX2_moment_6 : decode cX2_moment 6 = .ok (.invokestatic 34, 3) := by decide +kernel
theorem dX2_moment_9 : decode cX2_moment 9 = .ok (.aload_n 0, 1) := by decide +kernel
theorem dX2_moment_10 : decode cX2_moment 10 = .ok (.iload_n 1, 1) := by decide +kernel
theorem dX2_moment_11 : decode cX2_moment 11 = .ok (.iload_n 2, 1) := by decide +kernel
theorem dX2_moment_12 : decode cX2_moment 12 = .ok (.i2l, 1) := by decide +kernel
theorem dX2_moment_13 : decode cX2_moment 13 = .ok (.ldc2_w 72, 3) := by decide +kernel
theorem dX2_moment_16 : decode cX2_moment 16 = .ok (.lmul, 1) := by decide +kernel
theorem dX2_moment_17 : decode cX2_moment 17 = .ok (.iload_n 3, 1) := by decide +kernel
theorem dX2_moment_18 : decode cX2_moment 18 = .ok (.i2l, 1) := by decide +kernel
theorem dX2_moment_19 : decode cX2_moment 19 = .ok (.ladd, 1) := by decide +kernel
theorem dX2_moment_20 : decode cX2_moment 20 = .ok (.invokevirtual 74, 3) := by decide +kernel
theorem dX2_moment_23 : decode cX2_moment 23 = .ok (.ireturn, 1) := by decide +kernel
set_option maxHeartbeats 4000000 in
set_option maxRecDepth 20000 in
theorem c_X2_moment (ad : Nat → Nat) (cs : ClassId × ClassId × ClassId) (K : mK) (rest : va_W) (p0 : Int32) (p1 : Int32) (p2 : Int32) : mCt (mTy cs) yX2_moment cX2_moment 4 (some .int) ⟨7, 1, 6, 103⟩ [.ref (ad 0), .int p0, .int p1, .int p2] (mWd ad cs K rest) (mWi ad cs K rest) (mTh [xI] (mWd ad cs K rest)) := by
  refine mCt.of (by decide +kernel) (Nat.le_of_ble_eq_true rfl) (fun X hX hE => ?_)
  have hX : mOK X RX2 cX2_moment 4 ⟨7, 1, 6, 103⟩ [] (mTy cs) := hX
  refine r_iload_n hX dX2_moment_0 rfl rfl ?_
  refine r_aload_n hX dX2_moment_1 rfl rfl ?_
  refine r_get hX kf_X2_13 0 rfl rfl dX2_moment_2 ?_
  refine r_alen (v := nI 4) hX 2 1 rfl rfl rfl dX2_moment_5 ?_
  refine r_callS hX (c_X2_requireOne _ _ _ 4 (by decide)) ks_X2_34 rfl rfl (Nat.le_of_ble_eq_true rfl) ⟨(Nat.le_of_ble_eq_true rfl), (Nat.le_of_ble_eq_true rfl)⟩ ⟨(Nat.le_of_ble_eq_true rfl), (Nat.le_of_ble_eq_true rfl)⟩ dX2_moment_6 (fun E ws9 z => r_out hX hE (Nat.le_of_ble_eq_true rfl) (Nat.le_of_ble_eq_true rfl) (⟨by rw [z.1]; exact List.mem_cons_self, z.2.1⟩)) (fun v9 ws9 h1 => ?_)
  obtain ⟨i3, hhi3, rfl, rfl, hw9⟩ := h1
  subst ws9
  dsimp only [mPush]
  refine r_aload_n hX dX2_moment_9 rfl rfl ?_
  refine r_iload_n hX dX2_moment_10 rfl rfl ?_
  refine r_iload_n hX dX2_moment_11 rfl rfl ?_
  refine r_i2l hX dX2_moment_12 ?_
  refine r_ldc2 hX kc_X2_72 dX2_moment_13 ?_
  refine r_lmul hX dX2_moment_16 ?_
  refine r_iload_n hX dX2_moment_17 rfl rfl ?_
  refine r_i2l hX dX2_moment_18 ?_
  refine r_ladd hX dX2_moment_19 ?_
  refine r_callV hX (c_X2_putNumber _ _ _ _ i3 hhi3 _) kv_X2_74 0 rfl rfl rfl rfl (Nat.le_of_ble_eq_true rfl) ⟨(Nat.le_of_ble_eq_true rfl), (Nat.le_of_ble_eq_true rfl)⟩ ⟨(Nat.le_of_ble_eq_true rfl), (Nat.le_of_ble_eq_true rfl)⟩ dX2_moment_20 (fun _ _ z => False.elim z) (fun v9 ws9 h4 => ?_)
  obtain ⟨r6, K7, hK7, rfl, hw9⟩ := h4
  subst ws9
  dsimp only [mPush]
  exact r_iret hX hE dX2_moment_23 (Nat.le_of_ble_eq_true rfl) (Nat.le_of_ble_eq_true rfl) ⟨_, K7, (hK7.trans rfl), rfl, rfl⟩
theorem dX2_milli_0 : decode cX2_milli 0 = .ok (.iload_n 1, 1) := by decide +kernel
theorem dX2_milli_1 : decode cX2_milli 1 = .ok (.aload_n 0, 1) := by decide +kernel
theorem dX2_milli_2 : decode cX2_milli 2 = .ok (.getfield 13, 3) := by decide +kernel
theorem dX2_milli_5 : decode cX2_milli 5 = .ok (.arraylength, 1) := by decide +kernel
theorem dX2_milli_6 : decode cX2_milli 6 = .ok (.invokestatic 34, 3) := by decide +kernel
theorem dX2_milli_9 : decode cX2_milli 9 = .ok (.aload_n 0, 1) := by decide +kernel
theorem dX2_milli_10 : decode cX2_milli 10 = .ok (.iload_n 1, 1) := by decide +kernel
theorem dX2_milli_11 : decode cX2_milli 11 = .ok (.iload_n 2, 1) := by decide +kernel
theorem dX2_milli_12 : decode cX2_milli 12 = .ok (.i2l, 1) := by decide +kernel
theorem dX2_milli_13 : decode cX2_milli 13 = .ok (.ldc2_w 72, 3) := by decide +kernel
theorem dX2_milli_16 : decode cX2_milli 16 = .ok (.lmul, 1) := by decide +kernel
theorem dX2_milli_17 : decode cX2_milli 17 = .ok (.iload_n 3, 1) := by decide +kernel
theorem dX2_milli_18 : decode cX2_milli 18 = .ok (.i2l, 1) := by decide +kernel
theorem dX2_milli_19 : decode cX2_milli 19 = .ok (.ldc2_w 78, 3) := by decide +kernel
theorem dX2_milli_22 : decode cX2_milli 22 = .ok (.lmul, 1) := by decide +kernel
theorem dX2_milli_23 : decode cX2_milli 23 = .ok (.ladd, 1) := by decide +kernel
theorem dX2_milli_24 : decode cX2_milli 24 = .ok (.invokevirtual 74, 3) := by decide +kernel
theorem dX2_milli_27 : decode cX2_milli 27 = .ok (.ireturn, 1) := by decide +kernel
set_option maxHeartbeats 4000000 in
set_option maxRecDepth 20000 in
theorem c_X2_milli (ad : Nat → Nat) (cs : ClassId × ClassId × ClassId) (K : mK) (rest : va_W) (p0 : Int32) (p1 : Int32) (p2 : Int32) : mCt (mTy cs) yX2_milli cX2_milli 4 (some .int) ⟨7, 1, 6, 103⟩ [.ref (ad 0), .int p0, .int p1, .int p2] (mWd ad cs K rest) (mWi ad cs K rest) (mTh [xI] (mWd ad cs K rest)) := by
  refine mCt.of (by decide +kernel) (Nat.le_of_ble_eq_true rfl) (fun X hX hE => ?_)
  have hX : mOK X RX2 cX2_milli 4 ⟨7, 1, 6, 103⟩ [] (mTy cs) := hX
  refine r_iload_n hX dX2_milli_0 rfl rfl ?_
  refine r_aload_n hX dX2_milli_1 rfl rfl ?_
  refine r_get hX kf_X2_13 0 rfl rfl dX2_milli_2 ?_
  refine r_alen (v := nI 4) hX 2 1 rfl rfl rfl dX2_milli_5 ?_
  refine r_callS hX (c_X2_requireOne _ _ _ 4 (by decide)) ks_X2_34 rfl rfl (Nat.le_of_ble_eq_true rfl) ⟨(Nat.le_of_ble_eq_true rfl), (Nat.le_of_ble_eq_true rfl)⟩ ⟨(Nat.le_of_ble_eq_true rfl), (Nat.le_of_ble_eq_true rfl)⟩ dX2_milli_6 (fun E ws9 z => r_out hX hE (Nat.le_of_ble_eq_true rfl) (Nat.le_of_ble_eq_true rfl) (⟨by rw [z.1]; exact List.mem_cons_self, z.2.1⟩)) (fun v9 ws9 h1 => ?_)
  obtain ⟨i3, hhi3, rfl, rfl, hw9⟩ := h1
  subst ws9
  dsimp only [mPush]
  refine r_aload_n hX dX2_milli_9 rfl rfl ?_
  refine r_iload_n hX dX2_milli_10 rfl rfl ?_
  refine r_iload_n hX dX2_milli_11 rfl rfl ?_
  refine r_i2l hX dX2_milli_12 ?_
  refine r_ldc2 hX kc_X2_72 dX2_milli_13 ?_
  refine r_lmul hX dX2_milli_16 ?_
  refine r_iload_n hX dX2_milli_17 rfl rfl ?_
  refine r_i2l hX dX2_milli_18 ?_
  refine r_ldc2 hX kc_X2_78 dX2_milli_19 ?_
  refine r_lmul hX dX2_milli_22 ?_
  refine r_ladd hX dX2_milli_23 ?_
  refine r_callV hX (c_X2_putNumber _ _ _ _ i3 hhi3 _) kv_X2_74 0 rfl rfl rfl rfl (Nat.le_of_ble_eq_true rfl) ⟨(Nat.le_of_ble_eq_true rfl), (Nat.le_of_ble_eq_true rfl)⟩ ⟨(Nat.le_of_ble_eq_true rfl), (Nat.le_of_ble_eq_true rfl)⟩ dX2_milli_24 (fun _ _ z => False.elim z) (fun v9 ws9 h4 => ?_)
  obtain ⟨r6, K7, hK7, rfl, hw9⟩ := h4
  subst ws9
  dsimp only [mPush]
  exact r_iret hX hE dX2_milli_27 (Nat.le_of_ble_eq_true rfl) (Nat.le_of_ble_eq_true rfl) ⟨_, K7, (hK7.trans rfl), rfl, rfl⟩
theorem dX2_move_0 : decode cX2_move 0 = .ok (.iload_n 1, 1) := by decide +kernel
theorem dX2_move_1 : decode cX2_move 1 = .ok (.aload_n 0, 1) := by decide +kernel
theorem dX2_move_2 : decode cX2_move 2 = .ok (.getfield 13, 3) := by decide +kernel
theorem dX2_move_5 : decode cX2_move 5 = .ok (.arraylength, 1) := by decide +kernel
theorem dX2_move_6 : decode cX2_move 6 = .ok (.invokestatic 34, 3) := by decide +kernel
theorem dX2_move_9 : decode cX2_move 9 = .ok (.iload_n 2, 1) := by decide +kernel
theorem dX2_move_10 : decode cX2_move 10 = .ok (.iconst 0, 1) := by decide +kernel
theorem dX2_move_11 : decode cX2_move 11 = .ok (.iconst 2, 1) := by decide +kernel
theorem dX2_move_12 : decode cX2_move 12 = .ok (.invokestatic 40, 3) := by decide +kernel
theorem dX2_move_15 : decode cX2_move 15 = .ok (.iload_n 2, 1) := by decide +kernel
theorem dX2_move_16 : decode cX2_move 16 = .ok (.ifCond .ne 9, 3) := by decide +kernel
theorem dX2_move_19 : decode cX2_move 19 = .ok (.ldc2_w 72, 3) := by decide +kernel
theorem dX2_move_22 : decode cX2_move 22 = .ok (.goto 15, 3) := by decide +kernel
theorem dX2_move_25 : decode cX2_move 25 = .ok (.iload_n 2, 1) := by decide +kernel
theorem dX2_move_26 : decode cX2_move 26 = .ok (.iconst 1, 1) := by decide +kernel
theorem dX2_move_27 : decode cX2_move 27 = .ok (.if_icmp .ne 9, 3) := by decide +kernel
theorem dX2_move_30 : decode cX2_move 30 = .ok (.ldc2_w 78, 3) := by decide +kernel
theorem dX2_move_33 : decode cX2_move 33 = .ok (.goto 4, 3) := by decide +kernel
theorem dX2_move_36 : decode cX2_move 36 = .ok (.lconst 1, 1) := by decide +kernel
theorem dX2_move_37 : decode cX2_move 37 = .ok (.lstore 5, 2) := by decide +kernel
theorem dX2_move_39 : decode cX2_move 39 = .ok (.aload_n 0, 1) := by decide +kernel
theorem dX2_move_40 : decode cX2_move 40 = .ok (.iload_n 1, 1) := by decide +kernel
theorem dX2_move_41 : decode cX2_move 41 = .ok (.aload_n 0, 1) := by decide +kernel
theorem dX2_move_42 : decode cX2_move 42 = .ok (.getfield 13, 3) := by decide +kernel
theorem dX2_move_45 : decode cX2_move 45 = .ok (.iload_n 1, 1) := by decide +kernel
theorem dX2_move_46 : decode cX2_move 46 = .ok (.laload, 1) := by decide +kernel
theorem dX2_move_47 : decode cX2_move 47 = .ok (.iload_n 3, 1) := by decide +kernel
theorem dX2_move_48 : decode cX2_move 48 = .ok (.iload 4, 2) := by decide +kernel
theorem dX2_move_50 : decode cX2_move 50 = .ok (.invokestatic 80, 3) := by decide +kernel
theorem dX2_move_53 : decode cX2_move 53 = .ok (.lload 5, 2) := by decide +kernel
theorem dX2_move_55 : decode cX2_move 55 = .ok (.lmul, 1) := by decide +kernel
theorem dX2_move_56 : decode cX2_move 56 = .ok (.ladd, 1) := by decide +kernel
theorem dX2_move_57 : decode cX2_move 57 = .ok (.invokevirtual 74, 3) := by decide +kernel
theorem dX2_move_60 : decode cX2_move 60 = .ok (.ireturn, 1) := by decide +kernel
set_option maxHeartbeats 4000000 in
set_option maxRecDepth 20000 in
theorem c_X2_move (ad : Nat → Nat) (cs : ClassId × ClassId × ClassId) (K : mK) (rest : va_W) (p0 : Int32) (p1 : Int32) (p2 : Int32) (p3 : Int32) : mCt (mTy cs) yX2_move cX2_move 7 (some .int) ⟨7, 2, 12, 104⟩ [.ref (ad 0), .int p0, .int p1, .int p2, .int p3] (mWd ad cs K rest) (mWi ad cs K rest) (mTh [xI, xA] (mWd ad cs K rest)) := by
  refine mCt.of (by decide +kernel) (Nat.le_of_ble_eq_true rfl) (fun X hX hE => ?_)
  have hX : mOK X RX2 cX2_move 7 ⟨7, 2, 12, 104⟩ [] (mTy cs) := hX
  refine r_iload_n hX dX2_move_0 rfl rfl ?_
  refine r_aload_n hX dX2_move_1 rfl rfl ?_
  refine r_get hX kf_X2_13 0 rfl rfl dX2_move_2 ?_
  refine r_alen (v := nI 4) hX 2 1 rfl rfl rfl dX2_move_5 ?_
  refine r_callS hX (c_X2_requireOne _ _ _ 4 (by decide)) ks_X2_34 rfl rfl (Nat.le_of_ble_eq_true rfl) ⟨(Nat.le_of_ble_eq_true rfl), (Nat.le_of_ble_eq_true rfl)⟩ ⟨(Nat.le_of_ble_eq_true rfl), (Nat.le_of_ble_eq_true rfl)⟩ dX2_move_6 (fun E ws9 z => r_out hX hE (Nat.le_of_ble_eq_true rfl) (Nat.le_of_ble_eq_true rfl) (⟨by rw [z.1]; exact List.mem_cons_self, z.2.1⟩)) (fun v9 ws9 h1 => ?_)
  obtain ⟨i3, hhi3, rfl, rfl, hw9⟩ := h1
  subst ws9
  dsimp only [mPush]
  refine r_iload_n hX dX2_move_9 rfl rfl ?_
  refine r_iconst (v := 0) hX dX2_move_10 (by decide) ?_
  refine r_iconst (v := 2) hX dX2_move_11 (by decide) ?_
  refine r_callS hX (c_X2_requireWithin _ _ _ _ _) ks_X2_40 rfl rfl (Nat.le_of_ble_eq_true rfl) ⟨(Nat.le_of_ble_eq_true rfl), (Nat.le_of_ble_eq_true rfl)⟩ ⟨(Nat.le_of_ble_eq_true rfl), (Nat.le_of_ble_eq_true rfl)⟩ dX2_move_12 (fun E ws9 z => r_out hX hE (Nat.le_of_ble_eq_true rfl) (Nat.le_of_ble_eq_true rfl) (⟨by rw [z.1]; exact List.mem_cons_of_mem _ List.mem_cons_self, z.2.1⟩)) (fun v9 ws9 h4 => ?_)
  obtain ⟨a6, rfl, hw9⟩ := h4
  subst ws9
  dsimp only [mPush]
  refine r_iload_n hX dX2_move_15 rfl rfl ?_
  refine r_if_ne (tgt := 25) hX dX2_move_16 (by decide) (fun c7 => ?_) (fun c7 => ?_)
  · refine r_iload_n hX dX2_move_25 rfl rfl ?_
    refine r_iconst (v := 1) hX dX2_move_26 (by decide) ?_
    refine r_icmp_ne (tgt := 36) hX dX2_move_27 (by decide) (fun c8 => ?_) (fun c8 => ?_)
    · refine r_lconst (v := 1) hX dX2_move_36 (by decide) ?_
      refine r_lstore hX dX2_move_37 (by decide) rfl ?_
      refine r_aload_n hX dX2_move_39 rfl rfl ?_
      refine r_iload_n hX dX2_move_40 rfl rfl ?_
      refine r_aload_n hX dX2_move_41 rfl rfl ?_
      refine r_get hX kf_X2_13 0 rfl rfl dX2_move_42 ?_
      refine r_iload_n hX dX2_move_45 rfl rfl ?_
      refine r_lald hX 2 1 rfl rfl (vp_in_nI hhi3 (by decide)) dX2_move_46 ?_
      refine r_iload_n hX dX2_move_47 rfl rfl ?_
      refine r_iload hX dX2_move_48 rfl ?_
      refine r_callS hX (c_X2_signed _ _ _ _) ks_X2_80 rfl rfl (Nat.le_of_ble_eq_true rfl) ⟨(Nat.le_of_ble_eq_true rfl), (Nat.le_of_ble_eq_true rfl)⟩ ⟨(Nat.le_of_ble_eq_true rfl), (Nat.le_of_ble_eq_true rfl)⟩ dX2_move_50 (fun _ _ z => False.elim z) (fun v9 ws9 h9 => ?_)
      obtain ⟨r11, rfl, hw9⟩ := h9
      subst ws9
      dsimp only [mPush]
      refine r_lload hX dX2_move_53 rfl ?_
      refine r_lmul hX dX2_move_55 ?_
      refine r_ladd hX dX2_move_56 ?_
      refine r_callV hX (c_X2_putNumber _ _ _ _ i3 hhi3 _) kv_X2_74 0 rfl rfl rfl rfl (Nat.le_of_ble_eq_true rfl) ⟨(Nat.le_of_ble_eq_true rfl), (Nat.le_of_ble_eq_true rfl)⟩ ⟨(Nat.le_of_ble_eq_true rfl), (Nat.le_of_ble_eq_true rfl)⟩ dX2_move_57 (fun _ _ z => False.elim z) (fun v9 ws9 h12 => ?_)
      obtain ⟨r14, K15, hK15, rfl, hw9⟩ := h12
      subst ws9
      dsimp only [mPush]
      exact r_iret hX hE dX2_move_60 (Nat.le_of_ble_eq_true rfl) (Nat.le_of_ble_eq_true rfl) ⟨_, K15, (hK15.trans rfl), rfl, rfl⟩
    · refine r_ldc2 hX kc_X2_78 dX2_move_30 ?_
      refine r_goto (tgt := 37) hX dX2_move_33 (by decide) ?_
      refine r_lstore hX dX2_move_37 (by decide) rfl ?_
      refine r_aload_n hX dX2_move_39 rfl rfl ?_
      refine r_iload_n hX dX2_move_40 rfl rfl ?_
      refine r_aload_n hX dX2_move_41 rfl rfl ?_
      refine r_get hX kf_X2_13 0 rfl rfl dX2_move_42 ?_
      refine r_iload_n hX dX2_move_45 rfl rfl ?_
      refine r_lald hX 2 1 rfl rfl (vp_in_nI hhi3 (by decide)) dX2_move_46 ?_
      refine r_iload_n hX dX2_move_47 rfl rfl ?_
      refine r_iload hX dX2_move_48 rfl ?_
      refine r_callS hX (c_X2_signed _ _ _ _) ks_X2_80 rfl rfl (Nat.le_of_ble_eq_true rfl) ⟨(Nat.le_of_ble_eq_true rfl), (Nat.le_of_ble_eq_true rfl)⟩ ⟨(Nat.le_of_ble_eq_true rfl), (Nat.le_of_ble_eq_true rfl)⟩ dX2_move_50 (fun _ _ z => False.elim z) (fun v9 ws9 h16 => ?_)
      obtain ⟨r18, rfl, hw9⟩ := h16
      subst ws9
      dsimp only [mPush]
      refine r_lload hX dX2_move_53 rfl ?_
      refine r_lmul hX dX2_move_55 ?_
      refine r_ladd hX dX2_move_56 ?_
      refine r_callV hX (c_X2_putNumber _ _ _ _ i3 hhi3 _) kv_X2_74 0 rfl rfl rfl rfl (Nat.le_of_ble_eq_true rfl) ⟨(Nat.le_of_ble_eq_true rfl), (Nat.le_of_ble_eq_true rfl)⟩ ⟨(Nat.le_of_ble_eq_true rfl), (Nat.le_of_ble_eq_true rfl)⟩ dX2_move_57 (fun _ _ z => False.elim z) (fun v9 ws9 h19 => ?_)
      obtain ⟨r21, K22, hK22, rfl, hw9⟩ := h19
      subst ws9
      dsimp only [mPush]
      exact r_iret hX hE dX2_move_60 (Nat.le_of_ble_eq_true rfl) (Nat.le_of_ble_eq_true rfl) ⟨_, K22, (hK22.trans rfl), rfl, rfl⟩
  · refine r_ldc2 hX kc_X2_72 dX2_move_19 ?_
    refine r_goto (tgt := 37) hX dX2_move_22 (by decide) ?_
    refine r_lstore hX dX2_move_37 (by decide) rfl ?_
    refine r_aload_n hX dX2_move_39 rfl rfl ?_
    refine r_iload_n hX dX2_move_40 rfl rfl ?_
    refine r_aload_n hX dX2_move_41 rfl rfl ?_
    refine r_get hX kf_X2_13 0 rfl rfl dX2_move_42 ?_
    refine r_iload_n hX dX2_move_45 rfl rfl ?_
    refine r_lald hX 2 1 rfl rfl (vp_in_nI hhi3 (by decide)) dX2_move_46 ?_
    refine r_iload_n hX dX2_move_47 rfl rfl ?_
    refine r_iload hX dX2_move_48 rfl ?_
    refine r_callS hX (c_X2_signed _ _ _ _) ks_X2_80 rfl rfl (Nat.le_of_ble_eq_true rfl) ⟨(Nat.le_of_ble_eq_true rfl), (Nat.le_of_ble_eq_true rfl)⟩ ⟨(Nat.le_of_ble_eq_true rfl), (Nat.le_of_ble_eq_true rfl)⟩ dX2_move_50 (fun _ _ z => False.elim z) (fun v9 ws9 h23 => ?_)
    obtain ⟨r25, rfl, hw9⟩ := h23
    subst ws9
    dsimp only [mPush]
    refine r_lload hX dX2_move_53 rfl ?_
    refine r_lmul hX dX2_move_55 ?_
    refine r_ladd hX dX2_move_56 ?_
    refine r_callV hX (c_X2_putNumber _ _ _ _ i3 hhi3 _) kv_X2_74 0 rfl rfl rfl rfl (Nat.le_of_ble_eq_true rfl) ⟨(Nat.le_of_ble_eq_true rfl), (Nat.le_of_ble_eq_true rfl)⟩ ⟨(Nat.le_of_ble_eq_true rfl), (Nat.le_of_ble_eq_true rfl)⟩ dX2_move_57 (fun _ _ z => False.elim z) (fun v9 ws9 h26 => ?_)
    obtain ⟨r28, K29, hK29, rfl, hw9⟩ := h26
    subst ws9
    dsimp only [mPush]
    exact r_iret hX hE dX2_move_60 (Nat.le_of_ble_eq_true rfl) (Nat.le_of_ble_eq_true rfl) ⟨_, K29, (hK29.trans rfl), rfl, rfl⟩
theorem dX2_momentOf_0 : decode cX2_momentOf 0 = .ok (.iload_n 1, 1) := by decide +kernel
theorem dX2_momentOf_1 : decode cX2_momentOf 1 = .ok (.aload_n 0, 1) := by decide +kernel
theorem dX2_momentOf_2 : decode cX2_momentOf 2 = .ok (.getfield 13, 3) := by decide +kernel
theorem dX2_momentOf_5 : decode cX2_momentOf 5 = .ok (.arraylength, 1) := by decide +kernel
theorem dX2_momentOf_6 : decode cX2_momentOf 6 = .ok (.invokestatic 34, 3) := by decide +kernel
theorem dX2_momentOf_9 : decode cX2_momentOf 9 = .ok (.aload_n 0, 1) := by decide +kernel
theorem dX2_momentOf_10 : decode cX2_momentOf 10 = .ok (.iload_n 1, 1) := by decide +kernel
theorem dX2_momentOf_11 : decode cX2_momentOf 11 = .ok (.aload_n 0, 1) := by decide +kernel
theorem dX2_momentOf_12 : decode cX2_momentOf 12 = .ok (.getfield 20, 3) := by decide +kernel
theorem dX2_momentOf_15 : decode cX2_momentOf 15 = .ok (.iload_n 2, 1) := by decide +kernel
theorem dX2_momentOf_16 : decode cX2_momentOf 16 = .ok (.invokestatic 84, 3) := by decide +kernel
theorem dX2_momentOf_19 : decode cX2_momentOf 19 = .ok (.invokestatic 88, 3) := by decide +kernel
theorem dX2_momentOf_22 : decode cX2_momentOf 22 = .ok (.invokevirtual 74, 3) := by decide +kernel
theorem dX2_momentOf_25 : decode cX2_momentOf 25 = .ok (.ireturn, 1) := by decide +kernel
set_option maxHeartbeats 4000000 in
set_option maxRecDepth 20000 in
theorem c_X2_momentOf (ad : Nat → Nat) (cs : ClassId × ClassId × ClassId) (K : mK) (rest : va_W) (p0 : Int32) (p1 : Int32) : mCt (mTy cs) yX2_momentOf cX2_momentOf 3 (some .int) ⟨7, 2, 12, 103⟩ [.ref (ad 0), .int p0, .int p1] (mWd ad cs K rest) (mWi ad cs K rest) (mTh [xI] (mWd ad cs K rest)) := by
  refine mCt.of (by decide +kernel) (Nat.le_of_ble_eq_true rfl) (fun X hX hE => ?_)
  have hX : mOK X RX2 cX2_momentOf 3 ⟨7, 2, 12, 103⟩ [] (mTy cs) := hX
  refine r_iload_n hX dX2_momentOf_0 rfl rfl ?_
  refine r_aload_n hX dX2_momentOf_1 rfl rfl ?_
  refine r_get hX kf_X2_13 0 rfl rfl dX2_momentOf_2 ?_
  refine r_alen (v := nI 4) hX 2 1 rfl rfl rfl dX2_momentOf_5 ?_
  refine r_callS hX (c_X2_requireOne _ _ _ 4 (by decide)) ks_X2_34 rfl rfl (Nat.le_of_ble_eq_true rfl) ⟨(Nat.le_of_ble_eq_true rfl), (Nat.le_of_ble_eq_true rfl)⟩ ⟨(Nat.le_of_ble_eq_true rfl), (Nat.le_of_ble_eq_true rfl)⟩ dX2_momentOf_6 (fun E ws9 z => r_out hX hE (Nat.le_of_ble_eq_true rfl) (Nat.le_of_ble_eq_true rfl) (⟨by rw [z.1]; exact List.mem_cons_self, z.2.1⟩)) (fun v9 ws9 h1 => ?_)
  obtain ⟨i3, hhi3, rfl, rfl, hw9⟩ := h1
  subst ws9
  dsimp only [mPush]
  refine r_aload_n hX dX2_momentOf_9 rfl rfl ?_
  refine r_iload_n hX dX2_momentOf_10 rfl rfl ?_
  refine r_aload_n hX dX2_momentOf_11 rfl rfl ?_
  refine r_get hX kf_X2_20 0 rfl rfl dX2_momentOf_12 ?_
  refine r_iload_n hX dX2_momentOf_15 rfl rfl ?_
  refine r_callS hX (c_X2_at ad cs _ 3 _ 4 0 rfl (by decide) _) ks_X2_84 rfl rfl (Nat.le_of_ble_eq_true rfl) ⟨(Nat.le_of_ble_eq_true rfl), (Nat.le_of_ble_eq_true rfl)⟩ ⟨(Nat.le_of_ble_eq_true rfl), (Nat.le_of_ble_eq_true rfl)⟩ dX2_momentOf_16 (fun E ws9 z => r_out hX hE (Nat.le_of_ble_eq_true rfl) (Nat.le_of_ble_eq_true rfl) (⟨by rw [z.1]; exact List.mem_cons_self, z.2.1⟩)) (fun v9 ws9 h4 => ?_)
  obtain ⟨i6, hhi6, rfl, rfl, hw9⟩ := h4
  subst ws9
  dsimp only [mPush]
  refine r_callS hX (c_X2_numberOf _ _ (i6 + 5) _ _ _ _ (mWd_loc (d := i6) (by omega))) ks_X2_88 rfl rfl (Nat.le_of_ble_eq_true rfl) ⟨(Nat.le_of_ble_eq_true rfl), (Nat.le_of_ble_eq_true rfl)⟩ ⟨(Nat.le_of_ble_eq_true rfl), (Nat.le_of_ble_eq_true rfl)⟩ dX2_momentOf_19 (fun _ _ z => False.elim z) (fun v9 ws9 h7 => ?_)
  obtain ⟨r9, rfl, hw9⟩ := h7
  subst ws9
  dsimp only [mPush]
  refine r_callV hX (c_X2_putNumber _ _ _ _ i3 hhi3 _) kv_X2_74 0 rfl rfl rfl rfl (Nat.le_of_ble_eq_true rfl) ⟨(Nat.le_of_ble_eq_true rfl), (Nat.le_of_ble_eq_true rfl)⟩ ⟨(Nat.le_of_ble_eq_true rfl), (Nat.le_of_ble_eq_true rfl)⟩ dX2_momentOf_22 (fun _ _ z => False.elim z) (fun v9 ws9 h10 => ?_)
  obtain ⟨r12, K13, hK13, rfl, hw9⟩ := h10
  subst ws9
  dsimp only [mPush]
  exact r_iret hX hE dX2_momentOf_25 (Nat.le_of_ble_eq_true rfl) (Nat.le_of_ble_eq_true rfl) ⟨_, K13, (hK13.trans rfl), rfl, rfl⟩
theorem dX2_orderMoment_0 : decode cX2_orderMoment 0 = .ok (.iload_n 1, 1) := by decide +kernel
theorem dX2_orderMoment_1 : decode cX2_orderMoment 1 = .ok (.aload_n 0, 1) := by decide +kernel
theorem dX2_orderMoment_2 : decode cX2_orderMoment 2 = .ok (.getfield 13, 3) := by decide +kernel
theorem dX2_orderMoment_5 : decode cX2_orderMoment 5 = .ok (.arraylength, 1) := by decide +kernel
theorem dX2_orderMoment_6 : decode cX2_orderMoment 6 = .ok (.invokestatic 34, 3) := by decide +kernel
theorem dX2_orderMoment_9 : decode cX2_orderMoment 9 = .ok (.iload_n 2, 1) := by decide +kernel
theorem dX2_orderMoment_10 : decode cX2_orderMoment 10 = .ok (.aload_n 0, 1) := by decide +kernel
theorem dX2_orderMoment_11 : decode cX2_orderMoment 11 = .ok (.getfield 13, 3) := by decide +kernel
theorem dX2_orderMoment_14 : decode cX2_orderMoment 14 = .ok (.arraylength, 1) := by decide +kernel
theorem dX2_orderMoment_15 : decode cX2_orderMoment 15 = .ok (.invokestatic 34, 3) := by decide +kernel
theorem dX2_orderMoment_18 : decode cX2_orderMoment 18 = .ok (.aload_n 0, 1) := by decide +kernel
theorem dX2_orderMoment_19 : decode cX2_orderMoment 19 = .ok (.getfield 13, 3) := by decide +kernel
theorem dX2_orderMoment_22 : decode cX2_orderMoment 22 = .ok (.iload_n 1, 1) := by decide +kernel
theorem dX2_orderMoment_23 : decode cX2_orderMoment 23 = .ok (.laload, 1) := by decide +kernel
theorem dX2_orderMoment_24 : decode cX2_orderMoment 24 = .ok (.aload_n 0, 1) := by decide +kernel
theorem dX2_orderMoment_25 : decode cX2_orderMoment 25 = .ok (.getfield 13, 3) := by decide +kernel
theorem dX2_orderMoment_28 : decode cX2_orderMoment 28 = .ok (.iload_n 2, 1) := by decide +kernel
theorem dX2_orderMoment_29 : decode cX2_orderMoment 29 = .ok (.laload, 1) := by decide +kernel
theorem dX2_orderMoment_30 : decode cX2_orderMoment 30 = .ok (.invokestatic 68, 3) := by decide +kernel
theorem dX2_orderMoment_33 : decode cX2_orderMoment 33 = .ok (.ireturn, 1) := by decide +kernel
set_option maxHeartbeats 4000000 in
set_option maxRecDepth 20000 in
theorem c_X2_orderMoment (ad : Nat → Nat) (cs : ClassId × ClassId × ClassId) (K : mK) (rest : va_W) (p0 : Int32) (p1 : Int32) : mCt (mTy cs) yX2_orderMoment cX2_orderMoment 3 (some .int) ⟨7, 2, 12, 103⟩ [.ref (ad 0), .int p0, .int p1] (mWd ad cs K rest) (mRi (mWd ad cs K rest)) (mTh [xI] (mWd ad cs K rest)) := by
  refine mCt.of (by decide +kernel) (Nat.le_of_ble_eq_true rfl) (fun X hX hE => ?_)
  have hX : mOK X RX2 cX2_orderMoment 3 ⟨7, 2, 12, 103⟩ [] (mTy cs) := hX
  refine r_iload_n hX dX2_orderMoment_0 rfl rfl ?_
  refine r_aload_n hX dX2_orderMoment_1 rfl rfl ?_
  refine r_get hX kf_X2_13 0 rfl rfl dX2_orderMoment_2 ?_
  refine r_alen (v := nI 4) hX 2 1 rfl rfl rfl dX2_orderMoment_5 ?_
  refine r_callS hX (c_X2_requireOne _ _ _ 4 (by decide)) ks_X2_34 rfl rfl (Nat.le_of_ble_eq_true rfl) ⟨(Nat.le_of_ble_eq_true rfl), (Nat.le_of_ble_eq_true rfl)⟩ ⟨(Nat.le_of_ble_eq_true rfl), (Nat.le_of_ble_eq_true rfl)⟩ dX2_orderMoment_6 (fun E ws9 z => r_out hX hE (Nat.le_of_ble_eq_true rfl) (Nat.le_of_ble_eq_true rfl) (⟨by rw [z.1]; exact List.mem_cons_self, z.2.1⟩)) (fun v9 ws9 h1 => ?_)
  obtain ⟨i3, hhi3, rfl, rfl, hw9⟩ := h1
  subst ws9
  dsimp only [mPush]
  refine r_iload_n hX dX2_orderMoment_9 rfl rfl ?_
  refine r_aload_n hX dX2_orderMoment_10 rfl rfl ?_
  refine r_get hX kf_X2_13 0 rfl rfl dX2_orderMoment_11 ?_
  refine r_alen (v := nI 4) hX 2 1 rfl rfl rfl dX2_orderMoment_14 ?_
  refine r_callS hX (c_X2_requireOne _ _ _ 4 (by decide)) ks_X2_34 rfl rfl (Nat.le_of_ble_eq_true rfl) ⟨(Nat.le_of_ble_eq_true rfl), (Nat.le_of_ble_eq_true rfl)⟩ ⟨(Nat.le_of_ble_eq_true rfl), (Nat.le_of_ble_eq_true rfl)⟩ dX2_orderMoment_15 (fun E ws9 z => r_out hX hE (Nat.le_of_ble_eq_true rfl) (Nat.le_of_ble_eq_true rfl) (⟨by rw [z.1]; exact List.mem_cons_self, z.2.1⟩)) (fun v9 ws9 h4 => ?_)
  obtain ⟨i6, hhi6, rfl, rfl, hw9⟩ := h4
  subst ws9
  dsimp only [mPush]
  refine r_aload_n hX dX2_orderMoment_18 rfl rfl ?_
  refine r_get hX kf_X2_13 0 rfl rfl dX2_orderMoment_19 ?_
  refine r_iload_n hX dX2_orderMoment_22 rfl rfl ?_
  refine r_lald hX 2 1 rfl rfl (vp_in_nI hhi3 (by decide)) dX2_orderMoment_23 ?_
  refine r_aload_n hX dX2_orderMoment_24 rfl rfl ?_
  refine r_get hX kf_X2_13 0 rfl rfl dX2_orderMoment_25 ?_
  refine r_iload_n hX dX2_orderMoment_28 rfl rfl ?_
  refine r_lald hX 2 1 rfl rfl (vp_in_nI hhi6 (by decide)) dX2_orderMoment_29 ?_
  refine r_callS hX (c_X2_compared _ _ _ _) ks_X2_68 rfl rfl (Nat.le_of_ble_eq_true rfl) ⟨(Nat.le_of_ble_eq_true rfl), (Nat.le_of_ble_eq_true rfl)⟩ ⟨(Nat.le_of_ble_eq_true rfl), (Nat.le_of_ble_eq_true rfl)⟩ dX2_orderMoment_30 (fun _ _ z => False.elim z) (fun v9 ws9 h7 => ?_)
  obtain ⟨r9, rfl, hw9⟩ := h7
  subst ws9
  dsimp only [mPush]
  exact r_iret hX hE dX2_orderMoment_33 (Nat.le_of_ble_eq_true rfl) (Nat.le_of_ble_eq_true rfl) ⟨_, rfl, rfl⟩
theorem dX2_isMoment_0 : decode cX2_isMoment 0 = .ok (.aload_n 0, 1) := by decide +kernel
theorem dX2_isMoment_1 : decode cX2_isMoment 1 = .ok (.iload_n 1, 1) := by decide +kernel
theorem dX2_isMoment_2 : decode cX2_isMoment 2 = .ok (.iload_n 2, 1) := by decide +kernel
theorem dX2_isMoment_3 : decode cX2_isMoment 3 = .ok (.invokevirtual 110, 3) := by decide +kernel
theorem dX2_isMoment_6 : decode cX2_isMoment 6 = .ok (.istore 4, 2) := by decide +kernel
theorem dX2_isMoment_8 : decode cX2_isMoment 8 = .ok (.iload_n 3, 1) := by decide +kernel
theorem dX2_isMoment_9 : decode cX2_isMoment 9 = .ok (.iconst 0, 1) := by decide +kernel
theorem dX2_isMoment_10 : decode cX2_isMoment 10 = .ok (.iconst 2, 1) := by decide +kernel
theorem dX2_isMoment_11 : decode cX2_isMoment 11 = .ok (.invokestatic 40, 3) := by decide +kernel
theorem dX2_isMoment_14 : decode cX2_isMoment 14 = .ok (.iload_n 3, 1) := by decide +kernel
theorem dX2_isMoment_15 : decode cX2_isMoment 15 = .ok (.ifCond .ne 16, 3) := by decide +kernel
theorem dX2_isMoment_18 : decode cX2_isMoment 18 = .ok (.iload 4, 2) := by decide +kernel
theorem dX2_isMoment_20 : decode cX2_isMoment 20 = .ok (.ifCond .ge 7, 3) := by decide +kernel
theorem dX2_isMoment_23 : decode cX2_isMoment 23 = .ok (.iconst 1, 1) := by decide +kernel
theorem dX2_isMoment_24 : decode cX2_isMoment 24 = .ok (.goto 35, 3) := by decide +kernel
theorem dX2_isMoment_27 : decode cX2_isMoment 27 = .ok (.iconst 0, 1) := by decide +kernel
theorem dX2_isMoment_28 : decode cX2_isMoment 28 = .ok (.goto 31, 3) := by decide +kernel
theorem dX2_isMoment_31 : decode cX2_isMoment 31 = .ok (.iload_n 3, 1) := by decide +kernel
theorem dX2_isMoment_32 : decode cX2_isMoment 32 = .ok (.iconst 1, 1) := by decide +kernel
theorem dX2_isMoment_33 : decode cX2_isMoment 33 = .ok (.if_icmp .ne 16, 3) := by decide +kernel
theorem dX2_isMoment_36 : decode cX2_isMoment 36 = .ok (.iload 4, 2) := by decide +kernel
theorem dX2_isMoment_38 : decode cX2_isMoment 38 = .ok (.ifCond .le 7, 3) := by decide +kernel
theorem dX2_isMoment_41 : decode cX2_isMoment 41 = .ok (.iconst 1, 1) := by decide +kernel
theorem dX2_isMoment_42 : decode cX2_isMoment 42 = .ok (.goto 17, 3) := by decide +kernel
theorem dX2_isMoment_45 : decode cX2_isMoment 45 = .ok (.iconst 0, 1) := by decide +kernel
theorem dX2_isMoment_46 : decode cX2_isMoment 46 = .ok (.goto 13, 3) := by decide +kernel
theorem dX2_isMoment_49 : decode cX2_isMoment 49 = .ok (.iload 4, 2) := by decide +kernel
theorem dX2_isMoment_51 : decode cX2_isMoment 51 = .ok (.ifCond .ne 7, 3) := by decide +kernel
theorem dX2_isMoment_54 : decode cX2_isMoment 54 = .ok (.iconst 1, 1) := by decide +kernel
theorem dX2_isMoment_55 : decode cX2_isMoment 55 = .ok (.goto 4, 3) := by decide +kernel
theorem dX2_isMoment_58 : decode cX2_isMoment 58 = .ok (.iconst 0, 1) := by decide +kernel
theorem dX2_isMoment_59 : decode cX2_isMoment 59 = .ok (.ireturn, 1) := by decide +kernel
set_option maxHeartbeats 4000000 in
set_option maxRecDepth 20000 in
theorem c_X2_isMoment (ad : Nat → Nat) (cs : ClassId × ClassId × ClassId) (K : mK) (rest : va_W) (p0 : Int32) (p1 : Int32) (p2 : Int32) : mCt (mTy cs) yX2_isMoment cX2_isMoment 5 (some .boolean) ⟨8, 3, 18, 125⟩ [.ref (ad 0), .int p0, .int p1, .int p2] (mWd ad cs K rest) (mWb ad cs K rest) (mTh [xI, xA] (mWd ad cs K rest)) := by
  refine mCt.of (by decide +kernel) (Nat.le_of_ble_eq_true rfl) (fun X hX hE => ?_)
  have hX : mOK X RX2 cX2_isMoment 5 ⟨8, 3, 18, 125⟩ [] (mTy cs) := hX
  refine r_aload_n hX dX2_isMoment_0 rfl rfl ?_
  refine r_iload_n hX dX2_isMoment_1 rfl rfl ?_
  refine r_iload_n hX dX2_isMoment_2 rfl rfl ?_
  refine r_callV hX (c_X2_orderMoment _ _ _ _ _ _) kv_X2_110 0 rfl rfl rfl rfl (Nat.le_of_ble_eq_true rfl) ⟨(Nat.le_of_ble_eq_true rfl), (Nat.le_of_ble_eq_true rfl)⟩ ⟨(Nat.le_of_ble_eq_true rfl), (Nat.le_of_ble_eq_true rfl)⟩ dX2_isMoment_3 (fun E ws9 z => r_out hX hE (Nat.le_of_ble_eq_true rfl) (Nat.le_of_ble_eq_true rfl) (mTh_sub mS1 z)) (fun v9 ws9 h1 => ?_)
  obtain ⟨r3, rfl, hw9⟩ := h1
  subst ws9
  dsimp only [mPush]
  refine r_istore hX dX2_isMoment_6 (by decide) rfl ?_
  refine r_iload_n hX dX2_isMoment_8 rfl rfl ?_
  refine r_iconst (v := 0) hX dX2_isMoment_9 (by decide) ?_
  refine r_iconst (v := 2) hX dX2_isMoment_10 (by decide) ?_
  refine r_callS hX (c_X2_requireWithin _ _ _ _ _) ks_X2_40 rfl rfl (Nat.le_of_ble_eq_true rfl) ⟨(Nat.le_of_ble_eq_true rfl), (Nat.le_of_ble_eq_true rfl)⟩ ⟨(Nat.le_of_ble_eq_true rfl), (Nat.le_of_ble_eq_true rfl)⟩ dX2_isMoment_11 (fun E ws9 z => r_out hX hE (Nat.le_of_ble_eq_true rfl) (Nat.le_of_ble_eq_true rfl) (⟨by rw [z.1]; exact List.mem_cons_of_mem _ List.mem_cons_self, z.2.1⟩)) (fun v9 ws9 h4 => ?_)
  obtain ⟨a6, rfl, hw9⟩ := h4
  subst ws9
  dsimp only [mPush]
  refine r_iload_n hX dX2_isMoment_14 rfl rfl ?_
  refine r_if_ne (tgt := 31) hX dX2_isMoment_15 (by decide) (fun c7 => ?_) (fun c7 => ?_)
  · refine r_iload_n hX dX2_isMoment_31 rfl rfl ?_
    refine r_iconst (v := 1) hX dX2_isMoment_32 (by decide) ?_
    refine r_icmp_ne (tgt := 49) hX dX2_isMoment_33 (by decide) (fun c8 => ?_) (fun c8 => ?_)
    · refine r_iload hX dX2_isMoment_49 rfl ?_
      refine r_if_ne (tgt := 58) hX dX2_isMoment_51 (by decide) (fun c9 => ?_) (fun c9 => ?_)
      · refine r_iconst (v := 0) hX dX2_isMoment_58 (by decide) ?_
        exact r_zret hX hE dX2_isMoment_59 (mB_n (Or.inl rfl)) (Nat.le_of_ble_eq_true rfl) (Nat.le_of_ble_eq_true rfl) ⟨_, K, (Or.inl rfl), rfl, rfl, rfl⟩
      · refine r_iconst (v := 1) hX dX2_isMoment_54 (by decide) ?_
        refine r_goto (tgt := 59) hX dX2_isMoment_55 (by decide) ?_
        exact r_zret hX hE dX2_isMoment_59 (mB_n (Or.inr rfl)) (Nat.le_of_ble_eq_true rfl) (Nat.le_of_ble_eq_true rfl) ⟨_, K, (Or.inr rfl), rfl, rfl, rfl⟩
    · refine r_iload hX dX2_isMoment_36 rfl ?_
      refine r_if_le (tgt := 45) hX dX2_isMoment_38 (by decide) (fun c10 => ?_) (fun c10 => ?_)
      · refine r_iconst (v := 0) hX dX2_isMoment_45 (by decide) ?_
        refine r_goto (tgt := 59) hX dX2_isMoment_46 (by decide) ?_
        exact r_zret hX hE dX2_isMoment_59 (mB_n (Or.inl rfl)) (Nat.le_of_ble_eq_true rfl) (Nat.le_of_ble_eq_true rfl) ⟨_, K, (Or.inl rfl), rfl, rfl, rfl⟩
      · refine r_iconst (v := 1) hX dX2_isMoment_41 (by decide) ?_
        refine r_goto (tgt := 59) hX dX2_isMoment_42 (by decide) ?_
        exact r_zret hX hE dX2_isMoment_59 (mB_n (Or.inr rfl)) (Nat.le_of_ble_eq_true rfl) (Nat.le_of_ble_eq_true rfl) ⟨_, K, (Or.inr rfl), rfl, rfl, rfl⟩
  · refine r_iload hX dX2_isMoment_18 rfl ?_
    refine r_if_ge (tgt := 27) hX dX2_isMoment_20 (by decide) (fun c11 => ?_) (fun c11 => ?_)
    · refine r_iconst (v := 0) hX dX2_isMoment_27 (by decide) ?_
      refine r_goto (tgt := 59) hX dX2_isMoment_28 (by decide) ?_
      exact r_zret hX hE dX2_isMoment_59 (mB_n (Or.inl rfl)) (Nat.le_of_ble_eq_true rfl) (Nat.le_of_ble_eq_true rfl) ⟨_, K, (Or.inl rfl), rfl, rfl, rfl⟩
    · refine r_iconst (v := 1) hX dX2_isMoment_23 (by decide) ?_
      refine r_goto (tgt := 59) hX dX2_isMoment_24 (by decide) ?_
      exact r_zret hX hE dX2_isMoment_59 (mB_n (Or.inr rfl)) (Nat.le_of_ble_eq_true rfl) (Nat.le_of_ble_eq_true rfl) ⟨_, K, (Or.inr rfl), rfl, rfl, rfl⟩
theorem dX2_copyMoment_0 : decode cX2_copyMoment 0 = .ok (.iload_n 1, 1) := by decide +kernel
theorem dX2_copyMoment_1 : decode cX2_copyMoment 1 = .ok (.aload_n 0, 1) := by decide +kernel
theorem dX2_copyMoment_2 : decode cX2_copyMoment 2 = .ok (.getfield 13, 3) := by decide +kernel
theorem dX2_copyMoment_5 : decode cX2_copyMoment 5 = .ok (.arraylength, 1) := by decide +kernel
theorem dX2_copyMoment_6 : decode cX2_copyMoment 6 = .ok (.invokestatic 34, 3) := by decide +kernel
theorem dX2_copyMoment_9 : decode cX2_copyMoment 9 = .ok (.iload_n 2, 1) := by decide +kernel
theorem dX2_copyMoment_10 : decode cX2_copyMoment 10 = .ok (.aload_n 0, 1) := by decide +kernel
theorem dX2_copyMoment_11 : decode cX2_copyMoment 11 = .ok (.getfield 13, 3) := by decide +kernel
theorem dX2_copyMoment_14 : decode cX2_copyMoment 14 = .ok (.arraylength, 1) := by decide +kernel
theorem dX2_copyMoment_15 : decode cX2_copyMoment 15 = .ok (.invokestatic 34, 3) := by decide +kernel
theorem dX2_copyMoment_18 : decode cX2_copyMoment 18 = .ok (.aload_n 0, 1) := by decide +kernel
theorem dX2_copyMoment_19 : decode cX2_copyMoment 19 = .ok (.iload_n 1, 1) := by decide +kernel
theorem dX2_copyMoment_20 : decode cX2_copyMoment 20 = .ok (.aload_n 0, 1) := by decide +kernel
theorem dX2_copyMoment_21 : decode cX2_copyMoment 21 = .ok (.getfield 13, 3) := by decide +kernel
theorem dX2_copyMoment_24 : decode cX2_copyMoment 24 = .ok (.iload_n 2, 1) := by decide +kernel
theorem dX2_copyMoment_25 : decode cX2_copyMoment 25 = .ok (.laload, 1) := by decide +kernel
theorem dX2_copyMoment_26 : decode cX2_copyMoment 26 = .ok (.invokevirtual 74, 3) := by decide +kernel
theorem dX2_copyMoment_29 : decode cX2_copyMoment 29 = .ok (.ireturn, 1) := by decide +kernel
set_option maxHeartbeats 4000000 in
set_option maxRecDepth 20000 in
theorem c_X2_copyMoment (ad : Nat → Nat) (cs : ClassId × ClassId × ClassId) (K : mK) (rest : va_W) (p0 : Int32) (p1 : Int32) : mCt (mTy cs) yX2_copyMoment cX2_copyMoment 3 (some .int) ⟨7, 2, 12, 103⟩ [.ref (ad 0), .int p0, .int p1] (mWd ad cs K rest) (mWi ad cs K rest) (mTh [xI] (mWd ad cs K rest)) := by
  refine mCt.of (by decide +kernel) (Nat.le_of_ble_eq_true rfl) (fun X hX hE => ?_)
  have hX : mOK X RX2 cX2_copyMoment 3 ⟨7, 2, 12, 103⟩ [] (mTy cs) := hX
  refine r_iload_n hX dX2_copyMoment_0 rfl rfl ?_
  refine r_aload_n hX dX2_copyMoment_1 rfl rfl ?_
  refine r_get hX kf_X2_13 0 rfl rfl dX2_copyMoment_2 ?_
  refine r_alen (v := nI 4) hX 2 1 rfl rfl rfl dX2_copyMoment_5 ?_
  refine r_callS hX (c_X2_requireOne _ _ _ 4 (by decide)) ks_X2_34 rfl rfl (Nat.le_of_ble_eq_true rfl) ⟨(Nat.le_of_ble_eq_true rfl), (Nat.le_of_ble_eq_true rfl)⟩ ⟨(Nat.le_of_ble_eq_true rfl), (Nat.le_of_ble_eq_true rfl)⟩ dX2_copyMoment_6 (fun E ws9 z => r_out hX hE (Nat.le_of_ble_eq_true rfl) (Nat.le_of_ble_eq_true rfl) (⟨by rw [z.1]; exact List.mem_cons_self, z.2.1⟩)) (fun v9 ws9 h1 => ?_)
  obtain ⟨i3, hhi3, rfl, rfl, hw9⟩ := h1
  subst ws9
  dsimp only [mPush]
  refine r_iload_n hX dX2_copyMoment_9 rfl rfl ?_
  refine r_aload_n hX dX2_copyMoment_10 rfl rfl ?_
  refine r_get hX kf_X2_13 0 rfl rfl dX2_copyMoment_11 ?_
  refine r_alen (v := nI 4) hX 2 1 rfl rfl rfl dX2_copyMoment_14 ?_
  refine r_callS hX (c_X2_requireOne _ _ _ 4 (by decide)) ks_X2_34 rfl rfl (Nat.le_of_ble_eq_true rfl) ⟨(Nat.le_of_ble_eq_true rfl), (Nat.le_of_ble_eq_true rfl)⟩ ⟨(Nat.le_of_ble_eq_true rfl), (Nat.le_of_ble_eq_true rfl)⟩ dX2_copyMoment_15 (fun E ws9 z => r_out hX hE (Nat.le_of_ble_eq_true rfl) (Nat.le_of_ble_eq_true rfl) (⟨by rw [z.1]; exact List.mem_cons_self, z.2.1⟩)) (fun v9 ws9 h4 => ?_)
  obtain ⟨i6, hhi6, rfl, rfl, hw9⟩ := h4
  subst ws9
  dsimp only [mPush]
  refine r_aload_n hX dX2_copyMoment_18 rfl rfl ?_
  refine r_iload_n hX dX2_copyMoment_19 rfl rfl ?_
  refine r_aload_n hX dX2_copyMoment_20 rfl rfl ?_
  refine r_get hX kf_X2_13 0 rfl rfl dX2_copyMoment_21 ?_
  refine r_iload_n hX dX2_copyMoment_24 rfl rfl ?_
  refine r_lald hX 2 1 rfl rfl (vp_in_nI hhi6 (by decide)) dX2_copyMoment_25 ?_
  refine r_callV hX (c_X2_putNumber _ _ _ _ i3 hhi3 _) kv_X2_74 0 rfl rfl rfl rfl (Nat.le_of_ble_eq_true rfl) ⟨(Nat.le_of_ble_eq_true rfl), (Nat.le_of_ble_eq_true rfl)⟩ ⟨(Nat.le_of_ble_eq_true rfl), (Nat.le_of_ble_eq_true rfl)⟩ dX2_copyMoment_26 (fun _ _ z => False.elim z) (fun v9 ws9 h7 => ?_)
  obtain ⟨r9, K10, hK10, rfl, hw9⟩ := h7
  subst ws9
  dsimp only [mPush]
  exact r_iret hX hE dX2_copyMoment_29 (Nat.le_of_ble_eq_true rfl) (Nat.le_of_ble_eq_true rfl) ⟨_, K10, (hK10.trans rfl), rfl, rfl⟩
theorem dX2_date_0 : decode cX2_date 0 = .ok (.aload_n 0, 1) := by decide +kernel
theorem dX2_date_1 : decode cX2_date 1 = .ok (.getfield 20, 3) := by decide +kernel
theorem dX2_date_4 : decode cX2_date 4 = .ok (.iload_n 1, 1) := by decide +kernel
theorem dX2_date_5 : decode cX2_date 5 = .ok (.invokestatic 84, 3) := by decide +kernel
theorem dX2_date_8 : decode cX2_date 8 = .ok (.astore 7, 2) := by decide +kernel
theorem dX2_date_10 : decode cX2_date 10 = .ok (.aload_n 0, 1) := by decide +kernel
theorem dX2_date_11 : decode cX2_date 11 = .ok (.iload 6, 2) := by decide +kernel
theorem dX2_date_13 : decode cX2_date 13 = .ok (.invokevirtual 64, 3) := by decide +kernel
theorem dX2_date_16 : decode cX2_date 16 = .ok (.istore 8, 2) := by decide +kernel
theorem dX2_date_18 : decode cX2_date 18 = .ok (.iload_n 3, 1) := by decide +kernel
theorem dX2_date_19 : decode cX2_date 19 = .ok (.iconst 0, 1) := by decide +kernel
theorem dX2_date_20 : decode cX2_date 20 = .ok (.sipush 9999, 3) := by decide +kernel
theorem dX2_date_23 : decode cX2_date 23 = .ok (.invokestatic 40, 3) := by decide +kernel
theorem dX2_date_26 : decode cX2_date 26 = .ok (.iload 4, 2) := by decide +kernel
theorem dX2_date_28 : decode cX2_date 28 = .ok (.iconst 0, 1) := by decide +kernel
theorem dX2_date_29 : decode cX2_date 29 = .ok (.ldc 114, 2) := by decide +kernel
theorem dX2_date_31 : decode cX2_date 31 = .ok (.invokestatic 40, 3) := by decide +kernel
theorem dX2_date_34 : decode cX2_date 34 = .ok (.iload 5, 2) := by decide +kernel
theorem dX2_date_36 : decode cX2_date 36 = .ok (.iconst 0, 1) := by decide +kernel
theorem dX2_date_37 : decode cX2_date 37 = .ok (.ldc 115, 2) := by decide +kernel
theorem dX2_date_39 : decode cX2_date 39 = .ok (.invokestatic 40, 3) := by decide +kernel
theorem dX2_date_42 : decode cX2_date 42 = .ok (.iload_n 3, 1) := by decide +kernel
theorem dX2_date_43 : decode cX2_date 43 = .ok (.bipush 100, 2) := by decide +kernel
theorem dX2_date_45 : decode cX2_date 45 = .ok (.idiv, 1) := by decide +kernel
theorem dX2_date_46 : decode cX2_date 46 = .ok (.istore 9, 2) := by decide +kernel
theorem dX2_date_48 : decode cX2_date 48 = .ok (.iload_n 3, 1) := by decide +kernel
theorem dX2_date_49 : decode cX2_date 49 = .ok (.bipush 100, 2) := by decide +kernel
theorem dX2_date_51 : decode cX2_date 51 = .ok (.irem, 1) := by decide +kernel
theorem dX2_date_52 : decode cX2_date 52 = .ok (.istore 10, 2) := by decide +kernel
theorem dX2_date_54 : decode cX2_date 54 = .ok (.iload_n 2, 1) := by decide +kernel
theorem dX2_date_55 : decode cX2_date 55 = .ok (.i2l, 1) := by decide +kernel
theorem dX2_date_56 : decode cX2_date 56 = .ok (.ldc2_w 116, 3) := by decide +kernel
theorem dX2_date_59 : decode cX2_date 59 = .ok (.ldc2_w 118, 3) := by decide +kernel
theorem dX2_date_62 : decode cX2_date 62 = .ok (.invokestatic 48, 3) := by decide +kernel
theorem dX2_date_65 : decode cX2_date 65 = .ok (.ifCond .eq 14, 3) := by decide +kernel
theorem dX2_date_68 : decode cX2_date 68 = .ok (.iload_n 2, 1) := by decide +kernel
theorem dX2_date_69 : decode cX2_date 69 = .ok (.iload 9, 2) := by decide +kernel
theorem dX2_date_71 : decode cX2_date 71 = .ok (.iload 10, 2) := by decide +kernel
theorem dX2_date_73 : decode cX2_date 73 = .ok (.invokestatic 120, 3) := by decide +kernel
theorem dX2_date_76 : decode cX2_date 76 = .ok (.ifCond .ne 8, 3) := by decide +kernel
theorem dX2_date_79 : decode cX2_date 79 = .ok (.aload_n 0, 1) := by decide +kernel
theorem dX2_date_80 : decode cX2_date 80 = .ok (.invokevirtual 56, 3) := by decide +kernel
theorem dX2_date_83 : decode cX2_date 83 = .ok (.ireturn, 1) := by decide +kernel
theorem dX2_date_84 : decode cX2_date 84 = .ok (.aload_n 0, 1) := by decide +kernel
theorem dX2_date_85 : decode cX2_date 85 = .ok (.aload 7, 2) := by decide +kernel
theorem dX2_date_87 : decode cX2_date 87 = .ok (.iload_n 2, 1) := by decide +kernel
theorem dX2_date_88 : decode cX2_date 88 = .ok (.iload 9, 2) := by decide +kernel
theorem dX2_date_90 : decode cX2_date 90 = .ok (.iload 10, 2) := by decide +kernel
theorem dX2_date_92 : decode cX2_date 92 = .ok (.invokestatic 126, 3) := by decide +kernel
theorem dX2_date_95 : decode cX2_date 95 = .ok (.i2l, 1) := by decide +kernel
theorem dX2_date_96 : decode cX2_date 96 = .ok (.ldc2_w 130, 3) := by decide +kernel
theorem dX2_date_99 : decode cX2_date 99 = .ok (.lmul, 1) := by decide +kernel
theorem dX2_date_100 : decode cX2_date 100 = .ok (.iload 4, 2) := by decide +kernel
theorem dX2_date_102 : decode cX2_date 102 = .ok (.i2l, 1) := by decide +kernel
theorem dX2_date_103 : decode cX2_date 103 = .ok (.ladd, 1) := by decide +kernel
theorem dX2_date_104 : decode cX2_date 104 = .ok (.iload 5, 2) := by decide +kernel
theorem dX2_date_106 : decode cX2_date 106 = .ok (.iload 8, 2) := by decide +kernel
theorem dX2_date_108 : decode cX2_date 108 = .ok (.invokevirtual 132, 3) := by decide +kernel
theorem dX2_date_111 : decode cX2_date 111 = .ok (.ireturn, 1) := by decide +kernel
set_option maxHeartbeats 4000000 in
set_option maxRecDepth 20000 in
theorem c_X2_date (ad : Nat → Nat) (cs : ClassId × ClassId × ClassId) (K : mK) (rest : va_W) (p0 : Int32) (p1 : Int32) (p2 : Int32) (p3 : Int32) (p4 : Int32) (p5 : Int32) : mCt (mTy cs) yX2_date cX2_date 11 (some .int) ⟨8, 5, 30, 124⟩ [.ref (ad 0), .int p0, .int p1, .int p2, .int p3, .int p4, .int p5] (mWd ad cs K rest) (mWi ad cs K rest) (mTh [xI, xA] (mWd ad cs K rest)) := by
  refine mCt.of (by decide +kernel) (Nat.le_of_ble_eq_true rfl) (fun X hX hE => ?_)
  have hX : mOK X RX2 cX2_date 11 ⟨8, 5, 30, 124⟩ [] (mTy cs) := hX
  refine r_aload_n hX dX2_date_0 rfl rfl ?_
  refine r_get hX kf_X2_20 0 rfl rfl dX2_date_1 ?_
  refine r_iload_n hX dX2_date_4 rfl rfl ?_
  refine r_callS hX (c_X2_at ad cs _ 3 _ 4 0 rfl (by decide) _) ks_X2_84 rfl rfl (Nat.le_of_ble_eq_true rfl) ⟨(Nat.le_of_ble_eq_true rfl), (Nat.le_of_ble_eq_true rfl)⟩ ⟨(Nat.le_of_ble_eq_true rfl), (Nat.le_of_ble_eq_true rfl)⟩ dX2_date_5 (fun E ws9 z => r_out hX hE (Nat.le_of_ble_eq_true rfl) (Nat.le_of_ble_eq_true rfl) (⟨by rw [z.1]; exact List.mem_cons_self, z.2.1⟩)) (fun v9 ws9 h1 => ?_)
  obtain ⟨i3, hhi3, rfl, rfl, hw9⟩ := h1
  subst ws9
  dsimp only [mPush]
  refine r_astore hX dX2_date_8 (by decide) rfl ?_
  refine r_aload_n hX dX2_date_10 rfl rfl ?_
  refine r_iload hX dX2_date_11 rfl ?_
  refine r_callV hX (c_X2_seconds _ _ _ _ _) kv_X2_64 0 rfl rfl rfl rfl (Nat.le_of_ble_eq_true rfl) ⟨(Nat.le_of_ble_eq_true rfl), (Nat.le_of_ble_eq_true rfl)⟩ ⟨(Nat.le_of_ble_eq_true rfl), (Nat.le_of_ble_eq_true rfl)⟩ dX2_date_13 (fun E ws9 z => r_out hX hE (Nat.le_of_ble_eq_true rfl) (Nat.le_of_ble_eq_true rfl) (⟨by rw [z.1]; exact List.mem_cons_self, z.2.1⟩)) (fun v9 ws9 h4 => ?_)
  obtain ⟨i6, hhi6, rfl, rfl, hw9⟩ := h4
  subst ws9
  dsimp only [mPush]
  refine r_istore hX dX2_date_16 (by decide) rfl ?_
  refine r_iload_n hX dX2_date_18 rfl rfl ?_
  refine r_iconst (v := 0) hX dX2_date_19 (by decide) ?_
  refine r_sipush (v := 9999) hX dX2_date_20 (by decide) ?_
  refine r_callS hX (c_X2_requireWithin _ _ _ _ _) ks_X2_40 rfl rfl (Nat.le_of_ble_eq_true rfl) ⟨(Nat.le_of_ble_eq_true rfl), (Nat.le_of_ble_eq_true rfl)⟩ ⟨(Nat.le_of_ble_eq_true rfl), (Nat.le_of_ble_eq_true rfl)⟩ dX2_date_23 (fun E ws9 z => r_out hX hE (Nat.le_of_ble_eq_true rfl) (Nat.le_of_ble_eq_true rfl) (⟨by rw [z.1]; exact List.mem_cons_of_mem _ List.mem_cons_self, z.2.1⟩)) (fun v9 ws9 h7 => ?_)
  obtain ⟨a9, rfl, hw9⟩ := h7
  subst ws9
  dsimp only [mPush]
  refine r_iload hX dX2_date_26 rfl ?_
  refine r_iconst (v := 0) hX dX2_date_28 (by decide) ?_
  refine r_ldc hX kc_X2_114 dX2_date_29 ?_
  refine r_callS hX (c_X2_requireWithin _ _ _ _ _) ks_X2_40 rfl rfl (Nat.le_of_ble_eq_true rfl) ⟨(Nat.le_of_ble_eq_true rfl), (Nat.le_of_ble_eq_true rfl)⟩ ⟨(Nat.le_of_ble_eq_true rfl), (Nat.le_of_ble_eq_true rfl)⟩ dX2_date_31 (fun E ws9 z => r_out hX hE (Nat.le_of_ble_eq_true rfl) (Nat.le_of_ble_eq_true rfl) (⟨by rw [z.1]; exact List.mem_cons_of_mem _ List.mem_cons_self, z.2.1⟩)) (fun v9 ws9 h10 => ?_)
  obtain ⟨a12, rfl, hw9⟩ := h10
  subst ws9
  dsimp only [mPush]
  refine r_iload hX dX2_date_34 rfl ?_
  refine r_iconst (v := 0) hX dX2_date_36 (by decide) ?_
  refine r_ldc hX kc_X2_115 dX2_date_37 ?_
  refine r_callS hX (c_X2_requireWithin _ _ _ _ _) ks_X2_40 rfl rfl (Nat.le_of_ble_eq_true rfl) ⟨(Nat.le_of_ble_eq_true rfl), (Nat.le_of_ble_eq_true rfl)⟩ ⟨(Nat.le_of_ble_eq_true rfl), (Nat.le_of_ble_eq_true rfl)⟩ dX2_date_39 (fun E ws9 z => r_out hX hE (Nat.le_of_ble_eq_true rfl) (Nat.le_of_ble_eq_true rfl) (⟨by rw [z.1]; exact List.mem_cons_of_mem _ List.mem_cons_self, z.2.1⟩)) (fun v9 ws9 h13 => ?_)
  obtain ⟨a15, rfl, hw9⟩ := h13
  subst ws9
  dsimp only [mPush]
  refine r_iload_n hX dX2_date_42 rfl rfl ?_
  refine r_bipush (v := 100) hX dX2_date_43 (by decide) ?_
  refine r_idiv hX dX2_date_45 (by first | decide | assumption) ?_
  refine r_istore hX dX2_date_46 (by decide) rfl ?_
  refine r_iload_n hX dX2_date_48 rfl rfl ?_
  refine r_bipush (v := 100) hX dX2_date_49 (by decide) ?_
  refine r_irem hX dX2_date_51 (by first | decide | assumption) ?_
  refine r_istore hX dX2_date_52 (by decide) rfl ?_
  refine r_iload_n hX dX2_date_54 rfl rfl ?_
  refine r_i2l hX dX2_date_55 ?_
  refine r_ldc2 hX kc_X2_116 dX2_date_56 ?_
  refine r_ldc2 hX kc_X2_118 dX2_date_59 ?_
  refine r_callS hX (c_X2_isWithin _ _ _ _ _) ks_X2_48 rfl rfl (Nat.le_of_ble_eq_true rfl) ⟨(Nat.le_of_ble_eq_true rfl), (Nat.le_of_ble_eq_true rfl)⟩ ⟨(Nat.le_of_ble_eq_true rfl), (Nat.le_of_ble_eq_true rfl)⟩ dX2_date_62 (fun _ _ z => False.elim z) (fun v9 ws9 h16 => ?_)
  obtain ⟨rfl, hw9⟩ := h16
  subst ws9
  dsimp only [mPush]
  refine r_if_eq (tgt := 79) hX dX2_date_65 (by decide) (fun c18 => ?_) (fun c18 => ?_)
  · refine r_aload_n hX dX2_date_79 rfl rfl ?_
    refine r_callV hX (c_X2_refused _ _ _ _) kv_X2_56 0 rfl rfl rfl rfl (Nat.le_of_ble_eq_true rfl) ⟨(Nat.le_of_ble_eq_true rfl), (Nat.le_of_ble_eq_true rfl)⟩ ⟨(Nat.le_of_ble_eq_true rfl), (Nat.le_of_ble_eq_true rfl)⟩ dX2_date_80 (fun _ _ z => False.elim z) (fun v9 ws9 h19 => ?_)
    obtain ⟨r21, K22, hK22, rfl, hw9⟩ := h19
    subst ws9
    dsimp only [mPush]
    exact r_iret hX hE dX2_date_83 (Nat.le_of_ble_eq_true rfl) (Nat.le_of_ble_eq_true rfl) ⟨_, K22, (hK22.trans rfl), rfl, rfl⟩
  · refine r_iload_n hX dX2_date_68 rfl rfl ?_
    refine r_iload hX dX2_date_69 rfl ?_
    refine r_iload hX dX2_date_71 rfl ?_
    refine r_callS hX (c_X0_isDay _ _ _ _ _) ks_X2_120 rfl rfl (Nat.le_of_ble_eq_true rfl) ⟨(Nat.le_of_ble_eq_true rfl), (Nat.le_of_ble_eq_true rfl)⟩ ⟨(Nat.le_of_ble_eq_true rfl), (Nat.le_of_ble_eq_true rfl)⟩ dX2_date_73 (fun _ _ z => False.elim z) (fun v9 ws9 h23 => ?_)
    obtain ⟨r25, br25, rfl, hw9⟩ := h23
    subst ws9
    dsimp only [mPush]
    refine r_if_ne (tgt := 84) hX dX2_date_76 (by decide) (fun c26 => ?_) (fun c26 => ?_)
    · refine r_aload_n hX dX2_date_84 rfl rfl ?_
      refine r_aload hX dX2_date_85 rfl ?_
      refine r_iload_n hX dX2_date_87 rfl rfl ?_
      refine r_iload hX dX2_date_88 rfl ?_
      refine r_iload hX dX2_date_90 rfl ?_
      refine r_callS hX (c_X0_dayOf _ _ _ _ _) ks_X2_126 rfl rfl (Nat.le_of_ble_eq_true rfl) ⟨(Nat.le_of_ble_eq_true rfl), (Nat.le_of_ble_eq_true rfl)⟩ ⟨(Nat.le_of_ble_eq_true rfl), (Nat.le_of_ble_eq_true rfl)⟩ dX2_date_92 (fun _ _ z => False.elim z) (fun v9 ws9 h27 => ?_)
      obtain ⟨r29, rfl, hw9⟩ := h27
      subst ws9
      dsimp only [mPush]
      refine r_i2l hX dX2_date_95 ?_
      refine r_ldc2 hX kc_X2_130 dX2_date_96 ?_
      refine r_lmul hX dX2_date_99 ?_
      refine r_iload hX dX2_date_100 rfl ?_
      refine r_i2l hX dX2_date_102 ?_
      refine r_ladd hX dX2_date_103 ?_
      refine r_iload hX dX2_date_104 rfl ?_
      refine r_iload hX dX2_date_106 rfl ?_
      refine r_callV hX (c_X2_putLocal _ _ _ _ i3 (by omega) _ _ _) kv_X2_132 0 rfl rfl rfl rfl (Nat.le_of_ble_eq_true rfl) ⟨(Nat.le_of_ble_eq_true rfl), (Nat.le_of_ble_eq_true rfl)⟩ ⟨(Nat.le_of_ble_eq_true rfl), (Nat.le_of_ble_eq_true rfl)⟩ dX2_date_108 (fun _ _ z => False.elim z) (fun v9 ws9 h30 => ?_)
      obtain ⟨r32, K33, hK33, rfl, hw9⟩ := h30
      subst ws9
      dsimp only [mPush]
      exact r_iret hX hE dX2_date_111 (Nat.le_of_ble_eq_true rfl) (Nat.le_of_ble_eq_true rfl) ⟨_, K33, (hK33.trans rfl), rfl, rfl⟩
    · refine r_aload_n hX dX2_date_79 rfl rfl ?_
      refine r_callV hX (c_X2_refused _ _ _ _) kv_X2_56 0 rfl rfl rfl rfl (Nat.le_of_ble_eq_true rfl) ⟨(Nat.le_of_ble_eq_true rfl), (Nat.le_of_ble_eq_true rfl)⟩ ⟨(Nat.le_of_ble_eq_true rfl), (Nat.le_of_ble_eq_true rfl)⟩ dX2_date_80 (fun _ _ z => False.elim z) (fun v9 ws9 h34 => ?_)
      obtain ⟨r36, K37, hK37, rfl, hw9⟩ := h34
      subst ws9
      dsimp only [mPush]
      exact r_iret hX hE dX2_date_83 (Nat.le_of_ble_eq_true rfl) (Nat.le_of_ble_eq_true rfl) ⟨_, K37, (hK37.trans rfl), rfl, rfl⟩
theorem dX2_dateOf_0 : decode cX2_dateOf 0 = .ok (.aload_n 0, 1) := by decide +kernel
theorem dX2_dateOf_1 : decode cX2_dateOf 1 = .ok (.getfield 20, 3) := by decide +kernel
theorem dX2_dateOf_4 : decode cX2_dateOf 4 = .ok (.iload_n 1, 1) := by decide +kernel
theorem dX2_dateOf_5 : decode cX2_dateOf 5 = .ok (.invokestatic 84, 3) := by decide +kernel
theorem dX2_dateOf_8 : decode cX2_dateOf 8 = .ok (.astore 4, 2) := by decide +kernel
theorem dX2_dateOf_10 : decode cX2_dateOf 10 = .ok (.iload_n 2, 1) := by decide +kernel
theorem dX2_dateOf_11 : decode cX2_dateOf 11 = .ok (.aload_n 0, 1) := by decide +kernel
theorem dX2_dateOf_12 : decode cX2_dateOf 12 = .ok (.getfield 13, 3) := by decide +kernel
theorem dX2_dateOf_15 : decode cX2_dateOf 15 = .ok (.arraylength, 1) := by decide +kernel
theorem dX2_dateOf_16 : decode cX2_dateOf 16 = .ok (.invokestatic 34, 3) := by decide +kernel
theorem dX2_dateOf_19 : decode cX2_dateOf 19 = .ok (.aload_n 0, 1) := by decide +kernel
theorem dX2_dateOf_20 : decode cX2_dateOf 20 = .ok (.iload_n 3, 1) := by decide +kernel
theorem dX2_dateOf_21 : decode cX2_dateOf 21 = .ok (.invokevirtual 64, 3) := by decide +kernel
theorem dX2_dateOf_24 : decode cX2_dateOf 24 = .ok (.istore 5, 2) := by decide +kernel
theorem dX2_dateOf_26 : decode cX2_dateOf 26 = .ok (.aload_n 0, 1) := by decide +kernel
theorem dX2_dateOf_27 : decode cX2_dateOf 27 = .ok (.getfield 13, 3) := by decide +kernel
theorem dX2_dateOf_30 : decode cX2_dateOf 30 = .ok (.iload_n 2, 1) := by decide +kernel
theorem dX2_dateOf_31 : decode cX2_dateOf 31 = .ok (.laload, 1) := by decide +kernel
theorem dX2_dateOf_32 : decode cX2_dateOf 32 = .ok (.lstore 6, 2) := by decide +kernel
theorem dX2_dateOf_34 : decode cX2_dateOf 34 = .ok (.aload_n 0, 1) := by decide +kernel
theorem dX2_dateOf_35 : decode cX2_dateOf 35 = .ok (.aload 4, 2) := by decide +kernel
theorem dX2_dateOf_37 : decode cX2_dateOf 37 = .ok (.lload 6, 2) := by decide +kernel
theorem dX2_dateOf_39 : decode cX2_dateOf 39 = .ok (.invokestatic 96, 3) := by decide +kernel
theorem dX2_dateOf_42 : decode cX2_dateOf 42 = .ok (.iload 5, 2) := by decide +kernel
theorem dX2_dateOf_44 : decode cX2_dateOf 44 = .ok (.i2l, 1) := by decide +kernel
theorem dX2_dateOf_45 : decode cX2_dateOf 45 = .ok (.ladd, 1) := by decide +kernel
theorem dX2_dateOf_46 : decode cX2_dateOf 46 = .ok (.lload 6, 2) := by decide +kernel
theorem dX2_dateOf_48 : decode cX2_dateOf 48 = .ok (.invokestatic 92, 3) := by decide +kernel
theorem dX2_dateOf_51 : decode cX2_dateOf 51 = .ok (.iload 5, 2) := by decide +kernel
theorem dX2_dateOf_53 : decode cX2_dateOf 53 = .ok (.invokevirtual 132, 3) := by decide +kernel
theorem dX2_dateOf_56 : decode cX2_dateOf 56 = .ok (.ireturn, 1) := by decide +kernel
set_option maxHeartbeats 4000000 in
set_option maxRecDepth 20000 in
theorem c_X2_dateOf (ad : Nat → Nat) (cs : ClassId × ClassId × ClassId) (K : mK) (rest : va_W) (p0 : Int32) (p1 : Int32) (p2 : Int32) : mCt (mTy cs) yX2_dateOf cX2_dateOf 8 (some .int) ⟨8, 3, 18, 124⟩ [.ref (ad 0), .int p0, .int p1, .int p2] (mWd ad cs K rest) (mWi ad cs K rest) (mTh [xI] (mWd ad cs K rest)) := by
  refine mCt.of (by decide +kernel) (Nat.le_of_ble_eq_true rfl) (fun X hX hE => ?_)
  have hX : mOK X RX2 cX2_dateOf 8 ⟨8, 3, 18, 124⟩ [] (mTy cs) := hX
  refine r_aload_n hX dX2_dateOf_0 rfl rfl ?_
  refine r_get hX kf_X2_20 0 rfl rfl dX2_dateOf_1 ?_
  refine r_iload_n hX dX2_dateOf_4 rfl rfl ?_
  refine r_callS hX (c_X2_at ad cs _ 3 _ 4 0 rfl (by decide) _) ks_X2_84 rfl rfl (Nat.le_of_ble_eq_true rfl) ⟨(Nat.le_of_ble_eq_true rfl), (Nat.le_of_ble_eq_true rfl)⟩ ⟨(Nat.le_of_ble_eq_true rfl), (Nat.le_of_ble_eq_true rfl)⟩ dX2_dateOf_5 (fun E ws9 z => r_out hX hE (Nat.le_of_ble_eq_true rfl) (Nat.le_of_ble_eq_true rfl) (⟨by rw [z.1]; exact List.mem_cons_self, z.2.1⟩)) (fun v9 ws9 h1 => ?_)
  obtain ⟨i3, hhi3, rfl, rfl, hw9⟩ := h1
  subst ws9
  dsimp only [mPush]
  refine r_astore hX dX2_dateOf_8 (by decide) rfl ?_
  refine r_iload_n hX dX2_dateOf_10 rfl rfl ?_
  refine r_aload_n hX dX2_dateOf_11 rfl rfl ?_
  refine r_get hX kf_X2_13 0 rfl rfl dX2_dateOf_12 ?_
  refine r_alen (v := nI 4) hX 2 1 rfl rfl rfl dX2_dateOf_15 ?_
  refine r_callS hX (c_X2_requireOne _ _ _ 4 (by decide)) ks_X2_34 rfl rfl (Nat.le_of_ble_eq_true rfl) ⟨(Nat.le_of_ble_eq_true rfl), (Nat.le_of_ble_eq_true rfl)⟩ ⟨(Nat.le_of_ble_eq_true rfl), (Nat.le_of_ble_eq_true rfl)⟩ dX2_dateOf_16 (fun E ws9 z => r_out hX hE (Nat.le_of_ble_eq_true rfl) (Nat.le_of_ble_eq_true rfl) (⟨by rw [z.1]; exact List.mem_cons_self, z.2.1⟩)) (fun v9 ws9 h4 => ?_)
  obtain ⟨i6, hhi6, rfl, rfl, hw9⟩ := h4
  subst ws9
  dsimp only [mPush]
  refine r_aload_n hX dX2_dateOf_19 rfl rfl ?_
  refine r_iload_n hX dX2_dateOf_20 rfl rfl ?_
  refine r_callV hX (c_X2_seconds _ _ _ _ _) kv_X2_64 0 rfl rfl rfl rfl (Nat.le_of_ble_eq_true rfl) ⟨(Nat.le_of_ble_eq_true rfl), (Nat.le_of_ble_eq_true rfl)⟩ ⟨(Nat.le_of_ble_eq_true rfl), (Nat.le_of_ble_eq_true rfl)⟩ dX2_dateOf_21 (fun E ws9 z => r_out hX hE (Nat.le_of_ble_eq_true rfl) (Nat.le_of_ble_eq_true rfl) (⟨by rw [z.1]; exact List.mem_cons_self, z.2.1⟩)) (fun v9 ws9 h7 => ?_)
  obtain ⟨i9, hhi9, rfl, rfl, hw9⟩ := h7
  subst ws9
  dsimp only [mPush]
  refine r_istore hX dX2_dateOf_24 (by decide) rfl ?_
  refine r_aload_n hX dX2_dateOf_26 rfl rfl ?_
  refine r_get hX kf_X2_13 0 rfl rfl dX2_dateOf_27 ?_
  refine r_iload_n hX dX2_dateOf_30 rfl rfl ?_
  refine r_lald hX 2 1 rfl rfl (vp_in_nI hhi6 (by decide)) dX2_dateOf_31 ?_
  refine r_lstore hX dX2_dateOf_32 (by decide) rfl ?_
  refine r_aload_n hX dX2_dateOf_34 rfl rfl ?_
  refine r_aload hX dX2_dateOf_35 rfl ?_
  refine r_lload hX dX2_dateOf_37 rfl ?_
  refine r_callS hX (c_X2_secondOf _ _ _) ks_X2_96 rfl rfl (Nat.le_of_ble_eq_true rfl) ⟨(Nat.le_of_ble_eq_true rfl), (Nat.le_of_ble_eq_true rfl)⟩ ⟨(Nat.le_of_ble_eq_true rfl), (Nat.le_of_ble_eq_true rfl)⟩ dX2_dateOf_39 (fun _ _ z => False.elim z) (fun v9 ws9 h10 => ?_)
  obtain ⟨r12, rfl, hw9⟩ := h10
  subst ws9
  dsimp only [mPush]
  refine r_iload hX dX2_dateOf_42 rfl ?_
  refine r_i2l hX dX2_dateOf_44 ?_
  refine r_ladd hX dX2_dateOf_45 ?_
  refine r_lload hX dX2_dateOf_46 rfl ?_
  refine r_callS hX (c_X2_nanoOf _ _ _) ks_X2_92 rfl rfl (Nat.le_of_ble_eq_true rfl) ⟨(Nat.le_of_ble_eq_true rfl), (Nat.le_of_ble_eq_true rfl)⟩ ⟨(Nat.le_of_ble_eq_true rfl), (Nat.le_of_ble_eq_true rfl)⟩ dX2_dateOf_48 (fun _ _ z => False.elim z) (fun v9 ws9 h13 => ?_)
  obtain ⟨r15, rfl, hw9⟩ := h13
  subst ws9
  dsimp only [mPush]
  refine r_iload hX dX2_dateOf_51 rfl ?_
  refine r_callV hX (c_X2_putLocal _ _ _ _ i3 (by omega) _ _ _) kv_X2_132 0 rfl rfl rfl rfl (Nat.le_of_ble_eq_true rfl) ⟨(Nat.le_of_ble_eq_true rfl), (Nat.le_of_ble_eq_true rfl)⟩ ⟨(Nat.le_of_ble_eq_true rfl), (Nat.le_of_ble_eq_true rfl)⟩ dX2_dateOf_53 (fun _ _ z => False.elim z) (fun v9 ws9 h16 => ?_)
  obtain ⟨r18, K19, hK19, rfl, hw9⟩ := h16
  subst ws9
  dsimp only [mPush]
  exact r_iret hX hE dX2_dateOf_56 (Nat.le_of_ble_eq_true rfl) (Nat.le_of_ble_eq_true rfl) ⟨_, K19, (hK19.trans rfl), rfl, rfl⟩
theorem dX2_moveDate_0 : decode cX2_moveDate 0 = .ok (.aload_n 0, 1) := by decide +kernel
theorem dX2_moveDate_1 : decode cX2_moveDate 1 = .ok (.getfield 20, 3) := by decide +kernel
theorem dX2_moveDate_4 : decode cX2_moveDate 4 = .ok (.iload_n 1, 1) := by decide +kernel
theorem dX2_moveDate_5 : decode cX2_moveDate 5 = .ok (.invokestatic 84, 3) := by decide +kernel
theorem dX2_moveDate_8 : decode cX2_moveDate 8 = .ok (.astore 5, 2) := by decide +kernel
theorem dX2_moveDate_10 : decode cX2_moveDate 10 = .ok (.iload_n 2, 1) := by decide +kernel
theorem dX2_moveDate_11 : decode cX2_moveDate 11 = .ok (.iconst 0, 1) := by decide +kernel
theorem dX2_moveDate_12 : decode cX2_moveDate 12 = .ok (.bipush 7, 2) := by decide +kernel
theorem dX2_moveDate_14 : decode cX2_moveDate 14 = .ok (.invokestatic 40, 3) := by decide +kernel
theorem dX2_moveDate_17 : decode cX2_moveDate 17 = .ok (.iload_n 3, 1) := by decide +kernel
theorem dX2_moveDate_18 : decode cX2_moveDate 18 = .ok (.iload 4, 2) := by decide +kernel
theorem dX2_moveDate_20 : decode cX2_moveDate 20 = .ok (.invokestatic 80, 3) := by decide +kernel
theorem dX2_moveDate_23 : decode cX2_moveDate 23 = .ok (.lstore 6, 2) := by decide +kernel
theorem dX2_moveDate_25 : decode cX2_moveDate 25 = .ok (.iload_n 2, 1) := by decide +kernel
theorem dX2_moveDate_26 : decode cX2_moveDate 26 = .ok (.ifCond .ne 22, 3) := by decide +kernel
theorem dX2_moveDate_29 : decode cX2_moveDate 29 = .ok (.aload_n 0, 1) := by decide +kernel
theorem dX2_moveDate_30 : decode cX2_moveDate 30 = .ok (.aload 5, 2) := by decide +kernel
theorem dX2_moveDate_32 : decode cX2_moveDate 32 = .ok (.aload 5, 2) := by decide +kernel
theorem dX2_moveDate_34 : decode cX2_moveDate 34 = .ok (.invokevirtual 136, 3) := by decide +kernel
theorem dX2_moveDate_37 : decode cX2_moveDate 37 = .ok (.lload 6, 2) := by decide +kernel
theorem dX2_moveDate_39 : decode cX2_moveDate 39 = .ok (.ldc2_w 140, 3) := by decide +kernel
theorem dX2_moveDate_42 : decode cX2_moveDate 42 = .ok (.lmul, 1) := by decide +kernel
theorem dX2_moveDate_43 : decode cX2_moveDate 43 = .ok (.ladd, 1) := by decide +kernel
theorem dX2_moveDate_44 : decode cX2_moveDate 44 = .ok (.invokevirtual 142, 3) := by decide +kernel
theorem dX2_moveDate_47 : decode cX2_moveDate 47 = .ok (.ireturn, 1) := by decide +kernel
theorem dX2_moveDate_48 : decode cX2_moveDate 48 = .ok (.iload_n 2, 1) := by decide +kernel
theorem dX2_moveDate_49 : decode cX2_moveDate 49 = .ok (.iconst 1, 1) := by decide +kernel
theorem dX2_moveDate_50 : decode cX2_moveDate 50 = .ok (.if_icmp .ne 18, 3) := by decide +kernel
theorem dX2_moveDate_53 : decode cX2_moveDate 53 = .ok (.aload_n 0, 1) := by decide +kernel
theorem dX2_moveDate_54 : decode cX2_moveDate 54 = .ok (.aload 5, 2) := by decide +kernel
theorem dX2_moveDate_56 : decode cX2_moveDate 56 = .ok (.aload 5, 2) := by decide +kernel
theorem dX2_moveDate_58 : decode cX2_moveDate 58 = .ok (.invokevirtual 136, 3) := by decide +kernel
theorem dX2_moveDate_61 : decode cX2_moveDate 61 = .ok (.lload 6, 2) := by decide +kernel
theorem dX2_moveDate_63 : decode cX2_moveDate 63 = .ok (.ladd, 1) := by decide +kernel
theorem dX2_moveDate_64 : decode cX2_moveDate 64 = .ok (.invokevirtual 142, 3) := by decide +kernel
theorem dX2_moveDate_67 : decode cX2_moveDate 67 = .ok (.ireturn, 1) := by decide +kernel
theorem dX2_moveDate_68 : decode cX2_moveDate 68 = .ok (.aload_n 0, 1) := by decide +kernel
theorem dX2_moveDate_69 : decode cX2_moveDate 69 = .ok (.aload 5, 2) := by decide +kernel
theorem dX2_moveDate_71 : decode cX2_moveDate 71 = .ok (.aload 5, 2) := by decide +kernel
theorem dX2_moveDate_73 : decode cX2_moveDate 73 = .ok (.getfield 146, 3) := by decide +kernel
theorem dX2_moveDate_76 : decode cX2_moveDate 76 = .ok (.aload 5, 2) := by decide +kernel
theorem dX2_moveDate_78 : decode cX2_moveDate 78 = .ok (.iload_n 2, 1) := by decide +kernel
theorem dX2_moveDate_79 : decode cX2_moveDate 79 = .ok (.lload 6, 2) := by decide +kernel
theorem dX2_moveDate_81 : decode cX2_moveDate 81 = .ok (.invokestatic 150, 3) := by decide +kernel
theorem dX2_moveDate_84 : decode cX2_moveDate 84 = .ok (.ladd, 1) := by decide +kernel
theorem dX2_moveDate_85 : decode cX2_moveDate 85 = .ok (.aload 5, 2) := by decide +kernel
theorem dX2_moveDate_87 : decode cX2_moveDate 87 = .ok (.iload_n 2, 1) := by decide +kernel
theorem dX2_moveDate_88 : decode cX2_moveDate 88 = .ok (.lload 6, 2) := by decide +kernel
theorem dX2_moveDate_90 : decode cX2_moveDate 90 = .ok (.invokestatic 154, 3) := by decide +kernel
theorem dX2_moveDate_93 : decode cX2_moveDate 93 = .ok (.aload 5, 2) := by decide +kernel
theorem dX2_moveDate_95 : decode cX2_moveDate 95 = .ok (.getfield 158, 3) := by decide +kernel
theorem dX2_moveDate_98 : decode cX2_moveDate 98 = .ok (.invokevirtual 132, 3) := by decide +kernel
theorem dX2_moveDate_101 : decode cX2_moveDate 101 = .ok (.ireturn, 1) := by decide +kernel
set_option maxHeartbeats 4000000 in
set_option maxRecDepth 20000 in
theorem c_X2_moveDate (ad : Nat → Nat) (cs : ClassId × ClassId × ClassId) (K : mK) (rest : va_W) (p0 : Int32) (p1 : Int32) (p2 : Int32) (p3 : Int32) : mCt (mTy cs) yX2_moveDate cX2_moveDate 8 (some .int) ⟨7, 2, 12, 120⟩ [.ref (ad 0), .int p0, .int p1, .int p2, .int p3] (mWd ad cs K rest) (mWi ad cs K rest) (mTh [xI, xA] (mWd ad cs K rest)) := by
  refine mCt.of (by decide +kernel) (Nat.le_of_ble_eq_true rfl) (fun X hX hE => ?_)
  have hX : mOK X RX2 cX2_moveDate 8 ⟨7, 2, 12, 120⟩ [] (mTy cs) := hX
  refine r_aload_n hX dX2_moveDate_0 rfl rfl ?_
  refine r_get hX kf_X2_20 0 rfl rfl dX2_moveDate_1 ?_
  refine r_iload_n hX dX2_moveDate_4 rfl rfl ?_
  refine r_callS hX (c_X2_at ad cs _ 3 _ 4 0 rfl (by decide) _) ks_X2_84 rfl rfl (Nat.le_of_ble_eq_true rfl) ⟨(Nat.le_of_ble_eq_true rfl), (Nat.le_of_ble_eq_true rfl)⟩ ⟨(Nat.le_of_ble_eq_true rfl), (Nat.le_of_ble_eq_true rfl)⟩ dX2_moveDate_5 (fun E ws9 z => r_out hX hE (Nat.le_of_ble_eq_true rfl) (Nat.le_of_ble_eq_true rfl) (⟨by rw [z.1]; exact List.mem_cons_self, z.2.1⟩)) (fun v9 ws9 h1 => ?_)
  obtain ⟨i3, hhi3, rfl, rfl, hw9⟩ := h1
  subst ws9
  dsimp only [mPush]
  refine r_astore hX dX2_moveDate_8 (by decide) rfl ?_
  refine r_iload_n hX dX2_moveDate_10 rfl rfl ?_
  refine r_iconst (v := 0) hX dX2_moveDate_11 (by decide) ?_
  refine r_bipush (v := 7) hX dX2_moveDate_12 (by decide) ?_
  refine r_callS hX (c_X2_requireWithin _ _ _ _ _) ks_X2_40 rfl rfl (Nat.le_of_ble_eq_true rfl) ⟨(Nat.le_of_ble_eq_true rfl), (Nat.le_of_ble_eq_true rfl)⟩ ⟨(Nat.le_of_ble_eq_true rfl), (Nat.le_of_ble_eq_true rfl)⟩ dX2_moveDate_14 (fun E ws9 z => r_out hX hE (Nat.le_of_ble_eq_true rfl) (Nat.le_of_ble_eq_true rfl) (⟨by rw [z.1]; exact List.mem_cons_of_mem _ List.mem_cons_self, z.2.1⟩)) (fun v9 ws9 h4 => ?_)
  obtain ⟨a6, rfl, hw9⟩ := h4
  subst ws9
  dsimp only [mPush]
  refine r_iload_n hX dX2_moveDate_17 rfl rfl ?_
  refine r_iload hX dX2_moveDate_18 rfl ?_
  refine r_callS hX (c_X2_signed _ _ _ _) ks_X2_80 rfl rfl (Nat.le_of_ble_eq_true rfl) ⟨(Nat.le_of_ble_eq_true rfl), (Nat.le_of_ble_eq_true rfl)⟩ ⟨(Nat.le_of_ble_eq_true rfl), (Nat.le_of_ble_eq_true rfl)⟩ dX2_moveDate_20 (fun _ _ z => False.elim z) (fun v9 ws9 h7 => ?_)
  obtain ⟨r9, rfl, hw9⟩ := h7
  subst ws9
  dsimp only [mPush]
  refine r_lstore hX dX2_moveDate_23 (by decide) rfl ?_
  refine r_iload_n hX dX2_moveDate_25 rfl rfl ?_
  refine r_if_ne (tgt := 48) hX dX2_moveDate_26 (by decide) (fun c10 => ?_) (fun c10 => ?_)
  · refine r_iload_n hX dX2_moveDate_48 rfl rfl ?_
    refine r_iconst (v := 1) hX dX2_moveDate_49 (by decide) ?_
    refine r_icmp_ne (tgt := 68) hX dX2_moveDate_50 (by decide) (fun c11 => ?_) (fun c11 => ?_)
    · refine r_aload_n hX dX2_moveDate_68 rfl rfl ?_
      refine r_aload hX dX2_moveDate_69 rfl ?_
      refine r_aload hX dX2_moveDate_71 rfl ?_
      refine r_getN hX kg_X2_146 (i3 + 5) (mWd_loc (d := i3) (by omega)) rfl dX2_moveDate_73 ?_
      refine r_aload hX dX2_moveDate_76 rfl ?_
      refine r_iload_n hX dX2_moveDate_78 rfl rfl ?_
      refine r_lload hX dX2_moveDate_79 rfl ?_
      refine r_callS hX (c_X2_secondsOn _ _ (i3 + 5) _ _ _ _ (mWd_loc (d := i3) (by omega)) _ _) ks_X2_150 rfl rfl (Nat.le_of_ble_eq_true rfl) ⟨(Nat.le_of_ble_eq_true rfl), (Nat.le_of_ble_eq_true rfl)⟩ ⟨(Nat.le_of_ble_eq_true rfl), (Nat.le_of_ble_eq_true rfl)⟩ dX2_moveDate_81 (fun _ _ z => False.elim z) (fun v9 ws9 h12 => ?_)
      obtain ⟨r14, rfl, hw9⟩ := h12
      subst ws9
      dsimp only [mPush]
      refine r_ladd hX dX2_moveDate_84 ?_
      refine r_aload hX dX2_moveDate_85 rfl ?_
      refine r_iload_n hX dX2_moveDate_87 rfl rfl ?_
      refine r_lload hX dX2_moveDate_88 rfl ?_
      refine r_callS hX (c_X2_nanoOn _ _ (i3 + 5) _ _ _ _ (mWd_loc (d := i3) (by omega)) _ _) ks_X2_154 rfl rfl (Nat.le_of_ble_eq_true rfl) ⟨(Nat.le_of_ble_eq_true rfl), (Nat.le_of_ble_eq_true rfl)⟩ ⟨(Nat.le_of_ble_eq_true rfl), (Nat.le_of_ble_eq_true rfl)⟩ dX2_moveDate_90 (fun _ _ z => False.elim z) (fun v9 ws9 h15 => ?_)
      obtain ⟨r17, rfl, hw9⟩ := h15
      subst ws9
      dsimp only [mPush]
      refine r_aload hX dX2_moveDate_93 rfl ?_
      refine r_getN hX kg_X2_158 (i3 + 5) (mWd_loc (d := i3) (by omega)) rfl dX2_moveDate_95 ?_
      refine r_callV hX (c_X2_putLocal _ _ _ _ i3 (by omega) _ _ _) kv_X2_132 0 rfl rfl rfl rfl (Nat.le_of_ble_eq_true rfl) ⟨(Nat.le_of_ble_eq_true rfl), (Nat.le_of_ble_eq_true rfl)⟩ ⟨(Nat.le_of_ble_eq_true rfl), (Nat.le_of_ble_eq_true rfl)⟩ dX2_moveDate_98 (fun _ _ z => False.elim z) (fun v9 ws9 h18 => ?_)
      obtain ⟨r20, K21, hK21, rfl, hw9⟩ := h18
      subst ws9
      dsimp only [mPush]
      exact r_iret hX hE dX2_moveDate_101 (Nat.le_of_ble_eq_true rfl) (Nat.le_of_ble_eq_true rfl) ⟨_, K21, (hK21.trans rfl), rfl, rfl⟩
    · refine r_aload_n hX dX2_moveDate_53 rfl rfl ?_
      refine r_aload hX dX2_moveDate_54 rfl ?_
      refine r_aload hX dX2_moveDate_56 rfl ?_
      refine r_callV hX (c_X1_months _ _ (i3 + 5) _ _ _ _ (mWd_loc (d := i3) (by omega))) kv_X2_136 (i3 + 5) (mWd_loc (d := i3) (by omega)) rfl rfl rfl (Nat.le_of_ble_eq_true rfl) ⟨(Nat.le_of_ble_eq_true rfl), (Nat.le_of_ble_eq_true rfl)⟩ ⟨(Nat.le_of_ble_eq_true rfl), (Nat.le_of_ble_eq_true rfl)⟩ dX2_moveDate_58 (fun _ _ z => False.elim z) (fun v9 ws9 h22 => ?_)
      obtain ⟨r24, rfl, hw9⟩ := h22
      subst ws9
      dsimp only [mPush]
      refine r_lload hX dX2_moveDate_61 rfl ?_
      refine r_ladd hX dX2_moveDate_63 ?_
      refine r_callV hX (c_X2_putMonths _ _ _ _ i3 (by omega) _) kv_X2_142 0 rfl rfl rfl rfl (Nat.le_of_ble_eq_true rfl) ⟨(Nat.le_of_ble_eq_true rfl), (Nat.le_of_ble_eq_true rfl)⟩ ⟨(Nat.le_of_ble_eq_true rfl), (Nat.le_of_ble_eq_true rfl)⟩ dX2_moveDate_64 (fun _ _ z => False.elim z) (fun v9 ws9 h25 => ?_)
      obtain ⟨r27, K28, hK28, rfl, hw9⟩ := h25
      subst ws9
      dsimp only [mPush]
      exact r_iret hX hE dX2_moveDate_67 (Nat.le_of_ble_eq_true rfl) (Nat.le_of_ble_eq_true rfl) ⟨_, K28, (hK28.trans rfl), rfl, rfl⟩
  · refine r_aload_n hX dX2_moveDate_29 rfl rfl ?_
    refine r_aload hX dX2_moveDate_30 rfl ?_
    refine r_aload hX dX2_moveDate_32 rfl ?_
    refine r_callV hX (c_X1_months _ _ (i3 + 5) _ _ _ _ (mWd_loc (d := i3) (by omega))) kv_X2_136 (i3 + 5) (mWd_loc (d := i3) (by omega)) rfl rfl rfl (Nat.le_of_ble_eq_true rfl) ⟨(Nat.le_of_ble_eq_true rfl), (Nat.le_of_ble_eq_true rfl)⟩ ⟨(Nat.le_of_ble_eq_true rfl), (Nat.le_of_ble_eq_true rfl)⟩ dX2_moveDate_34 (fun _ _ z => False.elim z) (fun v9 ws9 h29 => ?_)
    obtain ⟨r31, rfl, hw9⟩ := h29
    subst ws9
    dsimp only [mPush]
    refine r_lload hX dX2_moveDate_37 rfl ?_
    refine r_ldc2 hX kc_X2_140 dX2_moveDate_39 ?_
    refine r_lmul hX dX2_moveDate_42 ?_
    refine r_ladd hX dX2_moveDate_43 ?_
    refine r_callV hX (c_X2_putMonths _ _ _ _ i3 (by omega) _) kv_X2_142 0 rfl rfl rfl rfl (Nat.le_of_ble_eq_true rfl) ⟨(Nat.le_of_ble_eq_true rfl), (Nat.le_of_ble_eq_true rfl)⟩ ⟨(Nat.le_of_ble_eq_true rfl), (Nat.le_of_ble_eq_true rfl)⟩ dX2_moveDate_44 (fun _ _ z => False.elim z) (fun v9 ws9 h32 => ?_)
    obtain ⟨r34, K35, hK35, rfl, hw9⟩ := h32
    subst ws9
    dsimp only [mPush]
    exact r_iret hX hE dX2_moveDate_47 (Nat.le_of_ble_eq_true rfl) (Nat.le_of_ble_eq_true rfl) ⟨_, K35, (hK35.trans rfl), rfl, rfl⟩
theorem dX2_set_0 : decode cX2_set 0 = .ok (.aload_n 0, 1) := by decide +kernel
theorem dX2_set_1 : decode cX2_set 1 = .ok (.getfield 20, 3) := by decide +kernel
theorem dX2_set_4 : decode cX2_set 4 = .ok (.iload_n 1, 1) := by decide +kernel
theorem dX2_set_5 : decode cX2_set 5 = .ok (.invokestatic 84, 3) := by decide +kernel
theorem dX2_set_8 : decode cX2_set 8 = .ok (.astore 4, 2) := by decide +kernel
theorem dX2_set_10 : decode cX2_set 10 = .ok (.iload_n 2, 1) := by decide +kernel
theorem dX2_set_11 : decode cX2_set 11 = .ok (.iconst 0, 1) := by decide +kernel
theorem dX2_set_12 : decode cX2_set 12 = .ok (.bipush 7, 2) := by decide +kernel
theorem dX2_set_14 : decode cX2_set 14 = .ok (.invokestatic 40, 3) := by decide +kernel
theorem dX2_set_17 : decode cX2_set 17 = .ok (.iload_n 2, 1) := by decide +kernel
theorem dX2_set_18 : decode cX2_set 18 = .ok (.iconst 3, 1) := by decide +kernel
theorem dX2_set_19 : decode cX2_set 19 = .ok (.if_icmp .gt 14, 3) := by decide +kernel
theorem dX2_set_22 : decode cX2_set 22 = .ok (.aload_n 0, 1) := by decide +kernel
theorem dX2_set_23 : decode cX2_set 23 = .ok (.aload 4, 2) := by decide +kernel
theorem dX2_set_25 : decode cX2_set 25 = .ok (.iload_n 2, 1) := by decide +kernel
theorem dX2_set_26 : decode cX2_set 26 = .ok (.iload_n 3, 1) := by decide +kernel
theorem dX2_set_27 : decode cX2_set 27 = .ok (.invokevirtual 162, 3) := by decide +kernel
theorem dX2_set_30 : decode cX2_set 30 = .ok (.goto 11, 3) := by decide +kernel
theorem dX2_set_33 : decode cX2_set 33 = .ok (.aload_n 0, 1) := by decide +kernel
theorem dX2_set_34 : decode cX2_set 34 = .ok (.aload 4, 2) := by decide +kernel
theorem dX2_set_36 : decode cX2_set 36 = .ok (.iload_n 2, 1) := by decide +kernel
theorem dX2_set_37 : decode cX2_set 37 = .ok (.iload_n 3, 1) := by decide +kernel
theorem dX2_set_38 : decode cX2_set 38 = .ok (.invokevirtual 166, 3) := by decide +kernel
theorem dX2_set_41 : decode cX2_set 41 = .ok (.ireturn, 1) := by decide +kernel
set_option maxHeartbeats 4000000 in
set_option maxRecDepth 20000 in
theorem c_X2_set (ad : Nat → Nat) (cs : ClassId × ClassId × ClassId) (K : mK) (rest : va_W) (p0 : Int32) (p1 : Int32) (p2 : Int32) : mCt (mTy cs) yX2_set cX2_set 5 (some .int) ⟨7, 2, 12, 145⟩ [.ref (ad 0), .int p0, .int p1, .int p2] (mWd ad cs K rest) (mWi ad cs K rest) (mTh [xI, xA] (mWd ad cs K rest)) := by
  refine mCt.of (by decide +kernel) (Nat.le_of_ble_eq_true rfl) (fun X hX hE => ?_)
  have hX : mOK X RX2 cX2_set 5 ⟨7, 2, 12, 145⟩ [] (mTy cs) := hX
  refine r_aload_n hX dX2_set_0 rfl rfl ?_
  refine r_get hX kf_X2_20 0 rfl rfl dX2_set_1 ?_
  refine r_iload_n hX dX2_set_4 rfl rfl ?_
  refine r_callS hX (c_X2_at ad cs _ 3 _ 4 0 rfl (by decide) _) ks_X2_84 rfl rfl (Nat.le_of_ble_eq_true rfl) ⟨(Nat.le_of_ble_eq_true rfl), (Nat.le_of_ble_eq_true rfl)⟩ ⟨(Nat.le_of_ble_eq_true rfl), (Nat.le_of_ble_eq_true rfl)⟩ dX2_set_5 (fun E ws9 z => r_out hX hE (Nat.le_of_ble_eq_true rfl) (Nat.le_of_ble_eq_true rfl) (⟨by rw [z.1]; exact List.mem_cons_self, z.2.1⟩)) (fun v9 ws9 h1 => ?_)
  obtain ⟨i3, hhi3, rfl, rfl, hw9⟩ := h1
  subst ws9
  dsimp only [mPush]
  refine r_astore hX dX2_set_8 (by decide) rfl ?_
  refine r_iload_n hX dX2_set_10 rfl rfl ?_
  refine r_iconst (v := 0) hX dX2_set_11 (by decide) ?_
  refine r_bipush (v := 7) hX dX2_set_12 (by decide) ?_
  refine r_callS hX (c_X2_requireWithin _ _ _ _ _) ks_X2_40 rfl rfl (Nat.le_of_ble_eq_true rfl) ⟨(Nat.le_of_ble_eq_true rfl), (Nat.le_of_ble_eq_true rfl)⟩ ⟨(Nat.le_of_ble_eq_true rfl), (Nat.le_of_ble_eq_true rfl)⟩ dX2_set_14 (fun E ws9 z => r_out hX hE (Nat.le_of_ble_eq_true rfl) (Nat.le_of_ble_eq_true rfl) (⟨by rw [z.1]; exact List.mem_cons_of_mem _ List.mem_cons_self, z.2.1⟩)) (fun v9 ws9 h4 => ?_)
  obtain ⟨a6, rfl, hw9⟩ := h4
  subst ws9
  dsimp only [mPush]
  refine r_iload_n hX dX2_set_17 rfl rfl ?_
  refine r_iconst (v := 3) hX dX2_set_18 (by decide) ?_
  refine r_icmp_gt (tgt := 33) hX dX2_set_19 (by decide) (fun c7 => ?_) (fun c7 => ?_)
  · refine r_aload_n hX dX2_set_33 rfl rfl ?_
    refine r_aload hX dX2_set_34 rfl ?_
    refine r_iload_n hX dX2_set_36 rfl rfl ?_
    refine r_iload_n hX dX2_set_37 rfl rfl ?_
    refine r_callV hX (c_X2_setOfTime _ _ _ _ i3 (by omega) _ _) kv_X2_166 0 rfl rfl rfl rfl (Nat.le_of_ble_eq_true rfl) ⟨(Nat.le_of_ble_eq_true rfl), (Nat.le_of_ble_eq_true rfl)⟩ ⟨(Nat.le_of_ble_eq_true rfl), (Nat.le_of_ble_eq_true rfl)⟩ dX2_set_38 (fun _ _ z => False.elim z) (fun v9 ws9 h8 => ?_)
    obtain ⟨r10, K11, hK11, rfl, hw9⟩ := h8
    subst ws9
    dsimp only [mPush]
    exact r_iret hX hE dX2_set_41 (Nat.le_of_ble_eq_true rfl) (Nat.le_of_ble_eq_true rfl) ⟨_, K11, (hK11.trans rfl), rfl, rfl⟩
  · refine r_aload_n hX dX2_set_22 rfl rfl ?_
    refine r_aload hX dX2_set_23 rfl ?_
    refine r_iload_n hX dX2_set_25 rfl rfl ?_
    refine r_iload_n hX dX2_set_26 rfl rfl ?_
    refine r_callV hX (c_X2_setOfDay _ _ _ _ i3 (by omega) _ _) kv_X2_162 0 rfl rfl rfl rfl (Nat.le_of_ble_eq_true rfl) ⟨(Nat.le_of_ble_eq_true rfl), (Nat.le_of_ble_eq_true rfl)⟩ ⟨(Nat.le_of_ble_eq_true rfl), (Nat.le_of_ble_eq_true rfl)⟩ dX2_set_27 (fun _ _ z => False.elim z) (fun v9 ws9 h12 => ?_)
    obtain ⟨r14, K15, hK15, rfl, hw9⟩ := h12
    subst ws9
    dsimp only [mPush]
    refine r_goto (tgt := 41) hX dX2_set_30 (by decide) ?_
    exact r_iret hX hE dX2_set_41 (Nat.le_of_ble_eq_true rfl) (Nat.le_of_ble_eq_true rfl) ⟨_, K15, (hK15.trans rfl), rfl, rfl⟩
theorem dX2_anew_0 : decode cX2_anew 0 = .ok (.aload_n 0, 1) := by decide +kernel
theorem dX2_anew_1 : decode cX2_anew 1 = .ok (.getfield 20, 3) := by decide +kernel
theorem dX2_anew_4 : decode cX2_anew 4 = .ok (.iload_n 1, 1) := by decide +kernel
theorem dX2_anew_5 : decode cX2_anew 5 = .ok (.invokestatic 84, 3) := by decide +kernel
theorem dX2_anew_8 : decode cX2_anew 8 = .ok (.astore 4, 2) := by decide +kernel
theorem dX2_anew_10 : decode cX2_anew 10 = .ok (.aload_n 0, 1) := by decide +kernel
theorem dX2_anew_11 : decode cX2_anew 11 = .ok (.iload_n 2, 1) := by decide +kernel
theorem dX2_anew_12 : decode cX2_anew 12 = .ok (.invokevirtual 64, 3) := by decide +kernel
theorem dX2_anew_15 : decode cX2_anew 15 = .ok (.istore 5, 2) := by decide +kernel
theorem dX2_anew_17 : decode cX2_anew 17 = .ok (.iload_n 3, 1) := by decide +kernel
theorem dX2_anew_18 : decode cX2_anew 18 = .ok (.ifCond .eq 11, 3) := by decide +kernel
theorem dX2_anew_21 : decode cX2_anew 21 = .ok (.aload 4, 2) := by decide +kernel
theorem dX2_anew_23 : decode cX2_anew 23 = .ok (.getfield 146, 3) := by decide +kernel
theorem dX2_anew_26 : decode cX2_anew 26 = .ok (.goto 12, 3) := by decide +kernel
theorem dX2_anew_29 : decode cX2_anew 29 = .ok (.aload 4, 2) := by decide +kernel
theorem dX2_anew_31 : decode cX2_anew 31 = .ok (.invokevirtual 169, 3) := by decide +kernel
theorem dX2_anew_34 : decode cX2_anew 34 = .ok (.iload 5, 2) := by decide +kernel
theorem dX2_anew_36 : decode cX2_anew 36 = .ok (.i2l, 1) := by decide +kernel
theorem dX2_anew_37 : decode cX2_anew 37 = .ok (.ladd, 1) := by decide +kernel
theorem dX2_anew_38 : decode cX2_anew 38 = .ok (.lstore 6, 2) := by decide +kernel
theorem dX2_anew_40 : decode cX2_anew 40 = .ok (.aload_n 0, 1) := by decide +kernel
theorem dX2_anew_41 : decode cX2_anew 41 = .ok (.aload 4, 2) := by decide +kernel
theorem dX2_anew_43 : decode cX2_anew 43 = .ok (.lload 6, 2) := by decide +kernel
theorem dX2_anew_45 : decode cX2_anew 45 = .ok (.aload 4, 2) := by decide +kernel
theorem dX2_anew_47 : decode cX2_anew 47 = .ok (.getfield 172, 3) := by decide +kernel
theorem dX2_anew_50 : decode cX2_anew 50 = .ok (.iload 5, 2) := by decide +kernel
theorem dX2_anew_52 : decode cX2_anew 52 = .ok (.invokevirtual 132, 3) := by decide +kernel
theorem dX2_anew_55 : decode cX2_anew 55 = .ok (.ireturn, 1) := by decide +kernel
set_option maxHeartbeats 4000000 in
set_option maxRecDepth 20000 in
theorem c_X2_anew (ad : Nat → Nat) (cs : ClassId × ClassId × ClassId) (K : mK) (rest : va_W) (p0 : Int32) (p1 : Int32) (p2 : Int32) : mCt (mTy cs) yX2_anew cX2_anew 8 (some .int) ⟨8, 2, 12, 124⟩ [.ref (ad 0), .int p0, .int p1, .int p2] (mWd ad cs K rest) (mWi ad cs K rest) (mTh [xI] (mWd ad cs K rest)) := by
  refine mCt.of (by decide +kernel) (Nat.le_of_ble_eq_true rfl) (fun X hX hE => ?_)
  have hX : mOK X RX2 cX2_anew 8 ⟨8, 2, 12, 124⟩ [] (mTy cs) := hX
  refine r_aload_n hX dX2_anew_0 rfl rfl ?_
  refine r_get hX kf_X2_20 0 rfl rfl dX2_anew_1 ?_
  refine r_iload_n hX dX2_anew_4 rfl rfl ?_
  refine r_callS hX (c_X2_at ad cs _ 3 _ 4 0 rfl (by decide) _) ks_X2_84 rfl rfl (Nat.le_of_ble_eq_true rfl) ⟨(Nat.le_of_ble_eq_true rfl), (Nat.le_of_ble_eq_true rfl)⟩ ⟨(Nat.le_of_ble_eq_true rfl), (Nat.le_of_ble_eq_true rfl)⟩ dX2_anew_5 (fun E ws9 z => r_out hX hE (Nat.le_of_ble_eq_true rfl) (Nat.le_of_ble_eq_true rfl) (⟨by rw [z.1]; exact List.mem_cons_self, z.2.1⟩)) (fun v9 ws9 h1 => ?_)
  obtain ⟨i3, hhi3, rfl, rfl, hw9⟩ := h1
  subst ws9
  dsimp only [mPush]
  refine r_astore hX dX2_anew_8 (by decide) rfl ?_
  refine r_aload_n hX dX2_anew_10 rfl rfl ?_
  refine r_iload_n hX dX2_anew_11 rfl rfl ?_
  refine r_callV hX (c_X2_seconds _ _ _ _ _) kv_X2_64 0 rfl rfl rfl rfl (Nat.le_of_ble_eq_true rfl) ⟨(Nat.le_of_ble_eq_true rfl), (Nat.le_of_ble_eq_true rfl)⟩ ⟨(Nat.le_of_ble_eq_true rfl), (Nat.le_of_ble_eq_true rfl)⟩ dX2_anew_12 (fun E ws9 z => r_out hX hE (Nat.le_of_ble_eq_true rfl) (Nat.le_of_ble_eq_true rfl) (⟨by rw [z.1]; exact List.mem_cons_self, z.2.1⟩)) (fun v9 ws9 h4 => ?_)
  obtain ⟨i6, hhi6, rfl, rfl, hw9⟩ := h4
  subst ws9
  dsimp only [mPush]
  refine r_istore hX dX2_anew_15 (by decide) rfl ?_
  refine r_iload_n hX dX2_anew_17 rfl rfl ?_
  refine r_if_eq (tgt := 29) hX dX2_anew_18 (by decide) (fun c7 => ?_) (fun c7 => ?_)
  · refine r_aload hX dX2_anew_29 rfl ?_
    refine r_callV hX (c_X1_momentSecond _ _ (i3 + 5) _ _ _ _ (mWd_loc (d := i3) (by omega))) kv_X2_169 (i3 + 5) (mWd_loc (d := i3) (by omega)) rfl rfl rfl (Nat.le_of_ble_eq_true rfl) ⟨(Nat.le_of_ble_eq_true rfl), (Nat.le_of_ble_eq_true rfl)⟩ ⟨(Nat.le_of_ble_eq_true rfl), (Nat.le_of_ble_eq_true rfl)⟩ dX2_anew_31 (fun _ _ z => False.elim z) (fun v9 ws9 h8 => ?_)
    obtain ⟨r10, rfl, hw9⟩ := h8
    subst ws9
    dsimp only [mPush]
    refine r_iload hX dX2_anew_34 rfl ?_
    refine r_i2l hX dX2_anew_36 ?_
    refine r_ladd hX dX2_anew_37 ?_
    refine r_lstore hX dX2_anew_38 (by decide) rfl ?_
    refine r_aload_n hX dX2_anew_40 rfl rfl ?_
    refine r_aload hX dX2_anew_41 rfl ?_
    refine r_lload hX dX2_anew_43 rfl ?_
    refine r_aload hX dX2_anew_45 rfl ?_
    refine r_getN hX kg_X2_172 (i3 + 5) (mWd_loc (d := i3) (by omega)) rfl dX2_anew_47 ?_
    refine r_iload hX dX2_anew_50 rfl ?_
    refine r_callV hX (c_X2_putLocal _ _ _ _ i3 (by omega) _ _ _) kv_X2_132 0 rfl rfl rfl rfl (Nat.le_of_ble_eq_true rfl) ⟨(Nat.le_of_ble_eq_true rfl), (Nat.le_of_ble_eq_true rfl)⟩ ⟨(Nat.le_of_ble_eq_true rfl), (Nat.le_of_ble_eq_true rfl)⟩ dX2_anew_52 (fun _ _ z => False.elim z) (fun v9 ws9 h11 => ?_)
    obtain ⟨r13, K14, hK14, rfl, hw9⟩ := h11
    subst ws9
    dsimp only [mPush]
    exact r_iret hX hE dX2_anew_55 (Nat.le_of_ble_eq_true rfl) (Nat.le_of_ble_eq_true rfl) ⟨_, K14, (hK14.trans rfl), rfl, rfl⟩
  · refine r_aload hX dX2_anew_21 rfl ?_
    refine r_getN hX kg_X2_146 (i3 + 5) (mWd_loc (d := i3) (by omega)) rfl dX2_anew_23 ?_
    refine r_goto (tgt := 38) hX dX2_anew_26 (by decide) ?_
    refine r_lstore hX dX2_anew_38 (by decide) rfl ?_
    refine r_aload_n hX dX2_anew_40 rfl rfl ?_
    refine r_aload hX dX2_anew_41 rfl ?_
    refine r_lload hX dX2_anew_43 rfl ?_
    refine r_aload hX dX2_anew_45 rfl ?_
    refine r_getN hX kg_X2_172 (i3 + 5) (mWd_loc (d := i3) (by omega)) rfl dX2_anew_47 ?_
    refine r_iload hX dX2_anew_50 rfl ?_
    refine r_callV hX (c_X2_putLocal _ _ _ _ i3 (by omega) _ _ _) kv_X2_132 0 rfl rfl rfl rfl (Nat.le_of_ble_eq_true rfl) ⟨(Nat.le_of_ble_eq_true rfl), (Nat.le_of_ble_eq_true rfl)⟩ ⟨(Nat.le_of_ble_eq_true rfl), (Nat.le_of_ble_eq_true rfl)⟩ dX2_anew_52 (fun _ _ z => False.elim z) (fun v9 ws9 h15 => ?_)
    obtain ⟨r17, K18, hK18, rfl, hw9⟩ := h15
    subst ws9
    dsimp only [mPush]
    exact r_iret hX hE dX2_anew_55 (Nat.le_of_ble_eq_true rfl) (Nat.le_of_ble_eq_true rfl) ⟨_, K18, (hK18.trans rfl), rfl, rfl⟩
theorem dX2_copy_0 : decode cX2_copy 0 = .ok (.aload_n 0, 1) := by decide +kernel
theorem dX2_copy_1 : decode cX2_copy 1 = .ok (.getfield 20, 3) := by decide +kernel
theorem dX2_copy_4 : decode cX2_copy 4 = .ok (.iload_n 1, 1) := by decide +kernel
theorem dX2_copy_5 : decode cX2_copy 5 = .ok (.invokestatic 84, 3) := by decide +kernel
theorem dX2_copy_8 : decode cX2_copy 8 = .ok (.astore_n 3, 1) := by decide +kernel
theorem dX2_copy_9 : decode cX2_copy 9 = .ok (.aload_n 0, 1) := by decide +kernel
theorem dX2_copy_10 : decode cX2_copy 10 = .ok (.getfield 20, 3) := by decide +kernel
theorem dX2_copy_13 : decode cX2_copy 13 = .ok (.iload_n 2, 1) := by decide +kernel
theorem dX2_copy_14 : decode cX2_copy 14 = .ok (.invokestatic 84, 3) := by decide +kernel
theorem dX2_copy_17 : decode cX2_copy 17 = .ok (.astore 4, 2) := by decide +kernel
theorem dX2_copy_19 : decode cX2_copy 19 = .ok (.aload_n 0, 1) := by decide +kernel
theorem dX2_copy_20 : decode cX2_copy 20 = .ok (.aload_n 3, 1) := by decide +kernel
theorem dX2_copy_21 : decode cX2_copy 21 = .ok (.aload 4, 2) := by decide +kernel
theorem dX2_copy_23 : decode cX2_copy 23 = .ok (.getfield 146, 3) := by decide +kernel
theorem dX2_copy_26 : decode cX2_copy 26 = .ok (.aload 4, 2) := by decide +kernel
theorem dX2_copy_28 : decode cX2_copy 28 = .ok (.getfield 172, 3) := by decide +kernel
theorem dX2_copy_31 : decode cX2_copy 31 = .ok (.aload 4, 2) := by decide +kernel
theorem dX2_copy_33 : decode cX2_copy 33 = .ok (.getfield 158, 3) := by decide +kernel
theorem dX2_copy_36 : decode cX2_copy 36 = .ok (.invokevirtual 132, 3) := by decide +kernel
theorem dX2_copy_39 : decode cX2_copy 39 = .ok (.ireturn, 1) := by decide +kernel
set_option maxHeartbeats 4000000 in
set_option maxRecDepth 20000 in
theorem c_X2_copy (ad : Nat → Nat) (cs : ClassId × ClassId × ClassId) (K : mK) (rest : va_W) (p0 : Int32) (p1 : Int32) : mCt (mTy cs) yX2_copy cX2_copy 5 (some .int) ⟨7, 2, 12, 103⟩ [.ref (ad 0), .int p0, .int p1] (mWd ad cs K rest) (mWi ad cs K rest) (mTh [xI] (mWd ad cs K rest)) := by
  refine mCt.of (by decide +kernel) (Nat.le_of_ble_eq_true rfl) (fun X hX hE => ?_)
  have hX : mOK X RX2 cX2_copy 5 ⟨7, 2, 12, 103⟩ [] (mTy cs) := hX
  refine r_aload_n hX dX2_copy_0 rfl rfl ?_
  refine r_get hX kf_X2_20 0 rfl rfl dX2_copy_1 ?_
  refine r_iload_n hX dX2_copy_4 rfl rfl ?_
  refine r_callS hX (c_X2_at ad cs _ 3 _ 4 0 rfl (by decide) _) ks_X2_84 rfl rfl (Nat.le_of_ble_eq_true rfl) ⟨(Nat.le_of_ble_eq_true rfl), (Nat.le_of_ble_eq_true rfl)⟩ ⟨(Nat.le_of_ble_eq_true rfl), (Nat.le_of_ble_eq_true rfl)⟩ dX2_copy_5 (fun E ws9 z => r_out hX hE (Nat.le_of_ble_eq_true rfl) (Nat.le_of_ble_eq_true rfl) (⟨by rw [z.1]; exact List.mem_cons_self, z.2.1⟩)) (fun v9 ws9 h1 => ?_)
  obtain ⟨i3, hhi3, rfl, rfl, hw9⟩ := h1
  subst ws9
  dsimp only [mPush]
  refine r_astore_n hX dX2_copy_8 rfl (by decide) rfl ?_
  refine r_aload_n hX dX2_copy_9 rfl rfl ?_
  refine r_get hX kf_X2_20 0 rfl rfl dX2_copy_10 ?_
  refine r_iload_n hX dX2_copy_13 rfl rfl ?_
  refine r_callS hX (c_X2_at ad cs _ 3 _ 4 0 rfl (by decide) _) ks_X2_84 rfl rfl (Nat.le_of_ble_eq_true rfl) ⟨(Nat.le_of_ble_eq_true rfl), (Nat.le_of_ble_eq_true rfl)⟩ ⟨(Nat.le_of_ble_eq_true rfl), (Nat.le_of_ble_eq_true rfl)⟩ dX2_copy_14 (fun E ws9 z => r_out hX hE (Nat.le_of_ble_eq_true rfl) (Nat.le_of_ble_eq_true rfl) (⟨by rw [z.1]; exact List.mem_cons_self, z.2.1⟩)) (fun v9 ws9 h4 => ?_)
  obtain ⟨i6, hhi6, rfl, rfl, hw9⟩ := h4
  subst ws9
  dsimp only [mPush]
  refine r_astore hX dX2_copy_17 (by decide) rfl ?_
  refine r_aload_n hX dX2_copy_19 rfl rfl ?_
  refine r_aload_n hX dX2_copy_20 rfl rfl ?_
  refine r_aload hX dX2_copy_21 rfl ?_
  refine r_getN hX kg_X2_146 (i6 + 5) (mWd_loc (d := i6) (by omega)) rfl dX2_copy_23 ?_
  refine r_aload hX dX2_copy_26 rfl ?_
  refine r_getN hX kg_X2_172 (i6 + 5) (mWd_loc (d := i6) (by omega)) rfl dX2_copy_28 ?_
  refine r_aload hX dX2_copy_31 rfl ?_
  refine r_getN hX kg_X2_158 (i6 + 5) (mWd_loc (d := i6) (by omega)) rfl dX2_copy_33 ?_
  refine r_callV hX (c_X2_putLocal _ _ _ _ i3 (by omega) _ _ _) kv_X2_132 0 rfl rfl rfl rfl (Nat.le_of_ble_eq_true rfl) ⟨(Nat.le_of_ble_eq_true rfl), (Nat.le_of_ble_eq_true rfl)⟩ ⟨(Nat.le_of_ble_eq_true rfl), (Nat.le_of_ble_eq_true rfl)⟩ dX2_copy_36 (fun _ _ z => False.elim z) (fun v9 ws9 h7 => ?_)
  obtain ⟨r9, K10, hK10, rfl, hw9⟩ := h7
  subst ws9
  dsimp only [mPush]
  exact r_iret hX hE dX2_copy_39 (Nat.le_of_ble_eq_true rfl) (Nat.le_of_ble_eq_true rfl) ⟨_, K10, (hK10.trans rfl), rfl, rfl⟩
theorem dX2_ofDate_0 : decode cX2_ofDate 0 = .ok (.aload_n 0, 1) := by decide +kernel
theorem dX2_ofDate_1 : decode cX2_ofDate 1 = .ok (.getfield 20, 3) := by decide +kernel
theorem dX2_ofDate_4 : decode cX2_ofDate 4 = .ok (.iload_n 1, 1) := by decide +kernel
theorem dX2_ofDate_5 : decode cX2_ofDate 5 = .ok (.invokestatic 84, 3) := by decide +kernel
theorem dX2_ofDate_8 : decode cX2_ofDate 8 = .ok (.astore_n 3, 1) := by decide +kernel
theorem dX2_ofDate_9 : decode cX2_ofDate 9 = .ok (.iload_n 2, 1) := by decide +kernel
theorem dX2_ofDate_10 : decode cX2_ofDate 10 = .ok (.iconst 0, 1) := by decide +kernel
theorem dX2_ofDate_11 : decode cX2_ofDate 11 = .ok (.bipush 12, 2) := by decide +kernel
theorem dX2_ofDate_13 : decode cX2_ofDate 13 = .ok (.invokestatic 40, 3) := by decide +kernel
theorem dX2_ofDate_16 : decode cX2_ofDate 16 = .ok (.aload_n 3, 1) := by decide +kernel
theorem dX2_ofDate_17 : decode cX2_ofDate 17 = .ok (.iload_n 2, 1) := by decide +kernel
theorem dX2_ofDate_18 : decode cX2_ofDate 18 = .ok (.invokestatic 175, 3) := by decide +kernel
theorem dX2_ofDate_21 : decode cX2_ofDate 21 = .ok (.ireturn, 1) := by decide +kernel
set_option maxHeartbeats 4000000 in
set_option maxRecDepth 20000 in
theorem c_X2_ofDate (ad : Nat → Nat) (cs : ClassId × ClassId × ClassId) (K : mK) (rest : va_W) (p0 : Int32) (p1 : Int32) : mCt (mTy cs) yX2_ofDate cX2_ofDate 4 (some .int) ⟨7, 2, 12, 107⟩ [.ref (ad 0), .int p0, .int p1] (mWd ad cs K rest) (mWi ad cs K rest) (mTh [xI, xA] (mWd ad cs K rest)) := by
  refine mCt.of (by decide +kernel) (Nat.le_of_ble_eq_true rfl) (fun X hX hE => ?_)
  have hX : mOK X RX2 cX2_ofDate 4 ⟨7, 2, 12, 107⟩ [] (mTy cs) := hX
  refine r_aload_n hX dX2_ofDate_0 rfl rfl ?_
  refine r_get hX kf_X2_20 0 rfl rfl dX2_ofDate_1 ?_
  refine r_iload_n hX dX2_ofDate_4 rfl rfl ?_
  refine r_callS hX (c_X2_at ad cs _ 3 _ 4 0 rfl (by decide) _) ks_X2_84 rfl rfl (Nat.le_of_ble_eq_true rfl) ⟨(Nat.le_of_ble_eq_true rfl), (Nat.le_of_ble_eq_true rfl)⟩ ⟨(Nat.le_of_ble_eq_true rfl), (Nat.le_of_ble_eq_true rfl)⟩ dX2_ofDate_5 (fun E ws9 z => r_out hX hE (Nat.le_of_ble_eq_true rfl) (Nat.le_of_ble_eq_true rfl) (⟨by rw [z.1]; exact List.mem_cons_self, z.2.1⟩)) (fun v9 ws9 h1 => ?_)
  obtain ⟨i3, hhi3, rfl, rfl, hw9⟩ := h1
  subst ws9
  dsimp only [mPush]
  refine r_astore_n hX dX2_ofDate_8 rfl (by decide) rfl ?_
  refine r_iload_n hX dX2_ofDate_9 rfl rfl ?_
  refine r_iconst (v := 0) hX dX2_ofDate_10 (by decide) ?_
  refine r_bipush (v := 12) hX dX2_ofDate_11 (by decide) ?_
  refine r_callS hX (c_X2_requireWithin _ _ _ _ _) ks_X2_40 rfl rfl (Nat.le_of_ble_eq_true rfl) ⟨(Nat.le_of_ble_eq_true rfl), (Nat.le_of_ble_eq_true rfl)⟩ ⟨(Nat.le_of_ble_eq_true rfl), (Nat.le_of_ble_eq_true rfl)⟩ dX2_ofDate_13 (fun E ws9 z => r_out hX hE (Nat.le_of_ble_eq_true rfl) (Nat.le_of_ble_eq_true rfl) (⟨by rw [z.1]; exact List.mem_cons_of_mem _ List.mem_cons_self, z.2.1⟩)) (fun v9 ws9 h4 => ?_)
  obtain ⟨a6, rfl, hw9⟩ := h4
  subst ws9
  dsimp only [mPush]
  refine r_aload_n hX dX2_ofDate_16 rfl rfl ?_
  refine r_iload_n hX dX2_ofDate_17 rfl rfl ?_
  refine r_callS hX (c_X2_datePart _ _ (i3 + 5) _ _ _ _ (mWd_loc (d := i3) (by omega)) _) ks_X2_175 rfl rfl (Nat.le_of_ble_eq_true rfl) ⟨(Nat.le_of_ble_eq_true rfl), (Nat.le_of_ble_eq_true rfl)⟩ ⟨(Nat.le_of_ble_eq_true rfl), (Nat.le_of_ble_eq_true rfl)⟩ dX2_ofDate_18 (fun _ _ z => False.elim z) (fun v9 ws9 h7 => ?_)
  obtain ⟨r9, rfl, hw9⟩ := h7
  subst ws9
  dsimp only [mPush]
  exact r_iret hX hE dX2_ofDate_21 (Nat.le_of_ble_eq_true rfl) (Nat.le_of_ble_eq_true rfl) ⟨_, K, rfl, rfl, rfl⟩
theorem dX2_orderDate_0 : decode cX2_orderDate 0 = .ok (.aload_n 0, 1) := by decide +kernel
theorem dX2_orderDate_1 : decode cX2_orderDate 1 = .ok (.getfield 20, 3) := by decide +kernel
theorem dX2_orderDate_4 : decode cX2_orderDate 4 = .ok (.iload_n 1, 1) := by decide +kernel
theorem dX2_orderDate_5 : decode cX2_orderDate 5 = .ok (.invokestatic 84, 3) := by decide +kernel
theorem dX2_orderDate_8 : decode cX2_orderDate 8 = .ok (.aload_n 0, 1) := by decide +kernel
theorem dX2_orderDate_9 : decode cX2_orderDate 9 = .ok (.getfield 20, 3) := by decide +kernel
theorem dX2_orderDate_12 : decode cX2_orderDate 12 = .ok (.iload_n 2, 1) := by decide +kernel
theorem dX2_orderDate_13 : decode cX2_orderDate 13 = .ok (.invokestatic 84, 3) := by decide +kernel
theorem dX2_orderDate_16 : decode cX2_orderDate 16 = .ok (.invokevirtual 179, 3) := by decide +kernel
theorem dX2_orderDate_19 : decode cX2_orderDate 19 = .ok (.ireturn, 1) := by decide +kernel
set_option maxHeartbeats 4000000 in
set_option maxRecDepth 20000 in
theorem c_X2_orderDate (ad : Nat → Nat) (cs : ClassId × ClassId × ClassId) (K : mK) (rest : va_W) (p0 : Int32) (p1 : Int32) : mCt (mTy cs) yX2_orderDate cX2_orderDate 3 (some .int) ⟨7, 2, 12, 103⟩ [.ref (ad 0), .int p0, .int p1] (mWd ad cs K rest) (mWi ad cs K rest) (mTh [xI] (mWd ad cs K rest)) := by
  refine mCt.of (by decide +kernel) (Nat.le_of_ble_eq_true rfl) (fun X hX hE => ?_)
  have hX : mOK X RX2 cX2_orderDate 3 ⟨7, 2, 12, 103⟩ [] (mTy cs) := hX
  refine r_aload_n hX dX2_orderDate_0 rfl rfl ?_
  refine r_get hX kf_X2_20 0 rfl rfl dX2_orderDate_1 ?_
  refine r_iload_n hX dX2_orderDate_4 rfl rfl ?_
  refine r_callS hX (c_X2_at ad cs _ 3 _ 4 0 rfl (by decide) _) ks_X2_84 rfl rfl (Nat.le_of_ble_eq_true rfl) ⟨(Nat.le_of_ble_eq_true rfl), (Nat.le_of_ble_eq_true rfl)⟩ ⟨(Nat.le_of_ble_eq_true rfl), (Nat.le_of_ble_eq_true rfl)⟩ dX2_orderDate_5 (fun E ws9 z => r_out hX hE (Nat.le_of_ble_eq_true rfl) (Nat.le_of_ble_eq_true rfl) (⟨by rw [z.1]; exact List.mem_cons_self, z.2.1⟩)) (fun v9 ws9 h1 => ?_)
  obtain ⟨i3, hhi3, rfl, rfl, hw9⟩ := h1
  subst ws9
  dsimp only [mPush]
  refine r_aload_n hX dX2_orderDate_8 rfl rfl ?_
  refine r_get hX kf_X2_20 0 rfl rfl dX2_orderDate_9 ?_
  refine r_iload_n hX dX2_orderDate_12 rfl rfl ?_
  refine r_callS hX (c_X2_at ad cs _ 3 _ 4 0 rfl (by decide) _) ks_X2_84 rfl rfl (Nat.le_of_ble_eq_true rfl) ⟨(Nat.le_of_ble_eq_true rfl), (Nat.le_of_ble_eq_true rfl)⟩ ⟨(Nat.le_of_ble_eq_true rfl), (Nat.le_of_ble_eq_true rfl)⟩ dX2_orderDate_13 (fun E ws9 z => r_out hX hE (Nat.le_of_ble_eq_true rfl) (Nat.le_of_ble_eq_true rfl) (⟨by rw [z.1]; exact List.mem_cons_self, z.2.1⟩)) (fun v9 ws9 h4 => ?_)
  obtain ⟨i6, hhi6, rfl, rfl, hw9⟩ := h4
  subst ws9
  dsimp only [mPush]
  refine r_callV hX (c_X1_orderTo _ _ (i3 + 5) _ _ _ _ (mWd_loc (d := i3) (by omega)) (i6 + 5) _ _ _ _ (mWd_loc (d := i6) (by omega))) kv_X2_179 (i3 + 5) (mWd_loc (d := i3) (by omega)) rfl rfl rfl (Nat.le_of_ble_eq_true rfl) ⟨(Nat.le_of_ble_eq_true rfl), (Nat.le_of_ble_eq_true rfl)⟩ ⟨(Nat.le_of_ble_eq_true rfl), (Nat.le_of_ble_eq_true rfl)⟩ dX2_orderDate_16 (fun _ _ z => False.elim z) (fun v9 ws9 h7 => ?_)
  obtain ⟨r9, rfl, hw9⟩ := h7
  subst ws9
  dsimp only [mPush]
  exact r_iret hX hE dX2_orderDate_19 (Nat.le_of_ble_eq_true rfl) (Nat.le_of_ble_eq_true rfl) ⟨_, K, rfl, rfl, rfl⟩
theorem dX2_isDate_0 : decode cX2_isDate 0 = .ok (.aload_n 0, 1) := by decide +kernel
theorem dX2_isDate_1 : decode cX2_isDate 1 = .ok (.getfield 20, 3) := by decide +kernel
theorem dX2_isDate_4 : decode cX2_isDate 4 = .ok (.iload_n 1, 1) := by decide +kernel
theorem dX2_isDate_5 : decode cX2_isDate 5 = .ok (.invokestatic 84, 3) := by decide +kernel
theorem dX2_isDate_8 : decode cX2_isDate 8 = .ok (.astore 4, 2) := by decide +kernel
theorem dX2_isDate_10 : decode cX2_isDate 10 = .ok (.aload_n 0, 1) := by decide +kernel
theorem dX2_isDate_11 : decode cX2_isDate 11 = .ok (.getfield 20, 3) := by decide +kernel
theorem dX2_isDate_14 : decode cX2_isDate 14 = .ok (.iload_n 2, 1) := by decide +kernel
theorem dX2_isDate_15 : decode cX2_isDate 15 = .ok (.invokestatic 84, 3) := by decide +kernel
theorem dX2_isDate_18 : decode cX2_isDate 18 = .ok (.astore 5, 2) := by decide +kernel
theorem dX2_isDate_20 : decode cX2_isDate 20 = .ok (.iload_n 3, 1) := by decide +kernel
theorem dX2_isDate_21 : decode cX2_isDate 21 = .ok (.iconst 0, 1) := by decide +kernel
theorem dX2_isDate_22 : decode cX2_isDate 22 = .ok (.iconst 3, 1) := by decide +kernel
theorem dX2_isDate_23 : decode cX2_isDate 23 = .ok (.invokestatic 40, 3) := by decide +kernel
theorem dX2_isDate_26 : decode cX2_isDate 26 = .ok (.aload 4, 2) := by decide +kernel
theorem dX2_isDate_28 : decode cX2_isDate 28 = .ok (.aload 5, 2) := by decide +kernel
theorem dX2_isDate_30 : decode cX2_isDate 30 = .ok (.iload_n 3, 1) := by decide +kernel
theorem dX2_isDate_31 : decode cX2_isDate 31 = .ok (.invokestatic 183, 3) := by decide +kernel
theorem dX2_isDate_34 : decode cX2_isDate 34 = .ok (.ireturn, 1) := by decide +kernel
set_option maxHeartbeats 4000000 in
set_option maxRecDepth 20000 in
theorem c_X2_isDate (ad : Nat → Nat) (cs : ClassId × ClassId × ClassId) (K : mK) (rest : va_W) (p0 : Int32) (p1 : Int32) (p2 : Int32) : mCt (mTy cs) yX2_isDate cX2_isDate 6 (some .boolean) ⟨7, 3, 18, 104⟩ [.ref (ad 0), .int p0, .int p1, .int p2] (mWd ad cs K rest) (mWb ad cs K rest) (mTh [xI, xA] (mWd ad cs K rest)) := by
  refine mCt.of (by decide +kernel) (Nat.le_of_ble_eq_true rfl) (fun X hX hE => ?_)
  have hX : mOK X RX2 cX2_isDate 6 ⟨7, 3, 18, 104⟩ [] (mTy cs) := hX
  refine r_aload_n hX dX2_isDate_0 rfl rfl ?_
  refine r_get hX kf_X2_20 0 rfl rfl dX2_isDate_1 ?_
  refine r_iload_n hX dX2_isDate_4 rfl rfl ?_
  refine r_callS hX (c_X2_at ad cs _ 3 _ 4 0 rfl (by decide) _) ks_X2_84 rfl rfl (Nat.le_of_ble_eq_true rfl) ⟨(Nat.le_of_ble_eq_true rfl), (Nat.le_of_ble_eq_true rfl)⟩ ⟨(Nat.le_of_ble_eq_true rfl), (Nat.le_of_ble_eq_true rfl)⟩ dX2_isDate_5 (fun E ws9 z => r_out hX hE (Nat.le_of_ble_eq_true rfl) (Nat.le_of_ble_eq_true rfl) (⟨by rw [z.1]; exact List.mem_cons_self, z.2.1⟩)) (fun v9 ws9 h1 => ?_)
  obtain ⟨i3, hhi3, rfl, rfl, hw9⟩ := h1
  subst ws9
  dsimp only [mPush]
  refine r_astore hX dX2_isDate_8 (by decide) rfl ?_
  refine r_aload_n hX dX2_isDate_10 rfl rfl ?_
  refine r_get hX kf_X2_20 0 rfl rfl dX2_isDate_11 ?_
  refine r_iload_n hX dX2_isDate_14 rfl rfl ?_
  refine r_callS hX (c_X2_at ad cs _ 3 _ 4 0 rfl (by decide) _) ks_X2_84 rfl rfl (Nat.le_of_ble_eq_true rfl) ⟨(Nat.le_of_ble_eq_true rfl), (Nat.le_of_ble_eq_true rfl)⟩ ⟨(Nat.le_of_ble_eq_true rfl), (Nat.le_of_ble_eq_true rfl)⟩ dX2_isDate_15 (fun E ws9 z => r_out hX hE (Nat.le_of_ble_eq_true rfl) (Nat.le_of_ble_eq_true rfl) (⟨by rw [z.1]; exact List.mem_cons_self, z.2.1⟩)) (fun v9 ws9 h4 => ?_)
  obtain ⟨i6, hhi6, rfl, rfl, hw9⟩ := h4
  subst ws9
  dsimp only [mPush]
  refine r_astore hX dX2_isDate_18 (by decide) rfl ?_
  refine r_iload_n hX dX2_isDate_20 rfl rfl ?_
  refine r_iconst (v := 0) hX dX2_isDate_21 (by decide) ?_
  refine r_iconst (v := 3) hX dX2_isDate_22 (by decide) ?_
  refine r_callS hX (c_X2_requireWithin _ _ _ _ _) ks_X2_40 rfl rfl (Nat.le_of_ble_eq_true rfl) ⟨(Nat.le_of_ble_eq_true rfl), (Nat.le_of_ble_eq_true rfl)⟩ ⟨(Nat.le_of_ble_eq_true rfl), (Nat.le_of_ble_eq_true rfl)⟩ dX2_isDate_23 (fun E ws9 z => r_out hX hE (Nat.le_of_ble_eq_true rfl) (Nat.le_of_ble_eq_true rfl) (⟨by rw [z.1]; exact List.mem_cons_of_mem _ List.mem_cons_self, z.2.1⟩)) (fun v9 ws9 h7 => ?_)
  obtain ⟨a9, rfl, hw9⟩ := h7
  subst ws9
  dsimp only [mPush]
  refine r_aload hX dX2_isDate_26 rfl ?_
  refine r_aload hX dX2_isDate_28 rfl ?_
  refine r_iload_n hX dX2_isDate_30 rfl rfl ?_
  refine r_callS hX (c_X2_isSo _ _ (i3 + 5) _ _ _ _ (mWd_loc (d := i3) (by omega)) (i6 + 5) _ _ _ _ (mWd_loc (d := i6) (by omega)) _) ks_X2_183 rfl rfl (Nat.le_of_ble_eq_true rfl) ⟨(Nat.le_of_ble_eq_true rfl), (Nat.le_of_ble_eq_true rfl)⟩ ⟨(Nat.le_of_ble_eq_true rfl), (Nat.le_of_ble_eq_true rfl)⟩ dX2_isDate_31 (fun _ _ z => False.elim z) (fun v9 ws9 h10 => ?_)
  obtain ⟨r12, br12, rfl, hw9⟩ := h10
  subst ws9
  dsimp only [mPush]
  exact r_zret hX hE dX2_isDate_34 (mB_n br12) (Nat.le_of_ble_eq_true rfl) (Nat.le_of_ble_eq_true rfl) ⟨_, K, br12, rfl, rfl, rfl⟩
theorem dX2_clock_0 : decode cX2_clock 0 = .ok (.aload_n 0, 1) := by decide +kernel
theorem dX2_clock_1 : decode cX2_clock 1 = .ok (.getfield 24, 3) := by decide +kernel
theorem dX2_clock_4 : decode cX2_clock 4 = .ok (.iload_n 1, 1) := by decide +kernel
theorem dX2_clock_5 : decode cX2_clock 5 = .ok (.invokestatic 84, 3) := by decide +kernel
theorem dX2_clock_8 : decode cX2_clock 8 = .ok (.astore 5, 2) := by decide +kernel
theorem dX2_clock_10 : decode cX2_clock 10 = .ok (.aload_n 0, 1) := by decide +kernel
theorem dX2_clock_11 : decode cX2_clock 11 = .ok (.iload 4, 2) := by decide +kernel
theorem dX2_clock_13 : decode cX2_clock 13 = .ok (.invokevirtual 64, 3) := by decide +kernel
theorem dX2_clock_16 : decode cX2_clock 16 = .ok (.istore 6, 2) := by decide +kernel
theorem dX2_clock_18 : decode cX2_clock 18 = .ok (.iload_n 2, 1) := by decide +kernel
theorem dX2_clock_19 : decode cX2_clock 19 = .ok (.iconst 0, 1) := by decide +kernel
theorem dX2_clock_20 : decode cX2_clock 20 = .ok (.ldc 114, 2) := by decide +kernel
theorem dX2_clock_22 : decode cX2_clock 22 = .ok (.invokestatic 40, 3) := by decide +kernel
theorem dX2_clock_25 : decode cX2_clock 25 = .ok (.iload_n 3, 1) := by decide +kernel
theorem dX2_clock_26 : decode cX2_clock 26 = .ok (.iconst 0, 1) := by decide +kernel
theorem dX2_clock_27 : decode cX2_clock 27 = .ok (.ldc 115, 2) := by decide +kernel
theorem dX2_clock_29 : decode cX2_clock 29 = .ok (.invokestatic 40, 3) := by decide +kernel
theorem dX2_clock_32 : decode cX2_clock 32 = .ok (.aload_n 0, 1) := by decide +kernel
theorem dX2_clock_33 : decode cX2_clock 33 = .ok (.aload 5, 2) := by decide +kernel
theorem dX2_clock_35 : decode cX2_clock 35 = .ok (.iload_n 2, 1) := by decide +kernel
theorem dX2_clock_36 : decode cX2_clock 36 = .ok (.i2l, 1) := by decide +kernel
theorem dX2_clock_37 : decode cX2_clock 37 = .ok (.iload_n 3, 1) := by decide +kernel
theorem dX2_clock_38 : decode cX2_clock 38 = .ok (.iload 6, 2) := by decide +kernel
theorem dX2_clock_40 : decode cX2_clock 40 = .ok (.invokevirtual 187, 3) := by decide +kernel
theorem dX2_clock_43 : decode cX2_clock 43 = .ok (.ireturn, 1) := by decide +kernel
set_option maxHeartbeats 4000000 in
set_option maxRecDepth 20000 in
theorem c_X2_clock (ad : Nat → Nat) (cs : ClassId × ClassId × ClassId) (K : mK) (rest : va_W) (p0 : Int32) (p1 : Int32) (p2 : Int32) (p3 : Int32) : mCt (mTy cs) yX2_clock cX2_clock 7 (some .int) ⟨8, 4, 24, 124⟩ [.ref (ad 0), .int p0, .int p1, .int p2, .int p3] (mWd ad cs K rest) (mWi ad cs K rest) (mTh [xI, xA] (mWd ad cs K rest)) := by
  refine mCt.of (by decide +kernel) (Nat.le_of_ble_eq_true rfl) (fun X hX hE => ?_)
  have hX : mOK X RX2 cX2_clock 7 ⟨8, 4, 24, 124⟩ [] (mTy cs) := hX
  refine r_aload_n hX dX2_clock_0 rfl rfl ?_
  refine r_get hX kf_X2_24 0 rfl rfl dX2_clock_1 ?_
  refine r_iload_n hX dX2_clock_4 rfl rfl ?_
  refine r_callS hX (c_X2_at ad cs _ 4 _ 3 4 rfl (by decide) _) ks_X2_84 rfl rfl (Nat.le_of_ble_eq_true rfl) ⟨(Nat.le_of_ble_eq_true rfl), (Nat.le_of_ble_eq_true rfl)⟩ ⟨(Nat.le_of_ble_eq_true rfl), (Nat.le_of_ble_eq_true rfl)⟩ dX2_clock_5 (fun E ws9 z => r_out hX hE (Nat.le_of_ble_eq_true rfl) (Nat.le_of_ble_eq_true rfl) (⟨by rw [z.1]; exact List.mem_cons_self, z.2.1⟩)) (fun v9 ws9 h1 => ?_)
  obtain ⟨i3, hhi3, rfl, rfl, hw9⟩ := h1
  subst ws9
  dsimp only [mPush]
  refine r_astore hX dX2_clock_8 (by decide) rfl ?_
  refine r_aload_n hX dX2_clock_10 rfl rfl ?_
  refine r_iload hX dX2_clock_11 rfl ?_
  refine r_callV hX (c_X2_seconds _ _ _ _ _) kv_X2_64 0 rfl rfl rfl rfl (Nat.le_of_ble_eq_true rfl) ⟨(Nat.le_of_ble_eq_true rfl), (Nat.le_of_ble_eq_true rfl)⟩ ⟨(Nat.le_of_ble_eq_true rfl), (Nat.le_of_ble_eq_true rfl)⟩ dX2_clock_13 (fun E ws9 z => r_out hX hE (Nat.le_of_ble_eq_true rfl) (Nat.le_of_ble_eq_true rfl) (⟨by rw [z.1]; exact List.mem_cons_self, z.2.1⟩)) (fun v9 ws9 h4 => ?_)
  obtain ⟨i6, hhi6, rfl, rfl, hw9⟩ := h4
  subst ws9
  dsimp only [mPush]
  refine r_istore hX dX2_clock_16 (by decide) rfl ?_
  refine r_iload_n hX dX2_clock_18 rfl rfl ?_
  refine r_iconst (v := 0) hX dX2_clock_19 (by decide) ?_
  refine r_ldc hX kc_X2_114 dX2_clock_20 ?_
  refine r_callS hX (c_X2_requireWithin _ _ _ _ _) ks_X2_40 rfl rfl (Nat.le_of_ble_eq_true rfl) ⟨(Nat.le_of_ble_eq_true rfl), (Nat.le_of_ble_eq_true rfl)⟩ ⟨(Nat.le_of_ble_eq_true rfl), (Nat.le_of_ble_eq_true rfl)⟩ dX2_clock_22 (fun E ws9 z => r_out hX hE (Nat.le_of_ble_eq_true rfl) (Nat.le_of_ble_eq_true rfl) (⟨by rw [z.1]; exact List.mem_cons_of_mem _ List.mem_cons_self, z.2.1⟩)) (fun v9 ws9 h7 => ?_)
  obtain ⟨a9, rfl, hw9⟩ := h7
  subst ws9
  dsimp only [mPush]
  refine r_iload_n hX dX2_clock_25 rfl rfl ?_
  refine r_iconst (v := 0) hX dX2_clock_26 (by decide) ?_
  refine r_ldc hX kc_X2_115 dX2_clock_27 ?_
  refine r_callS hX (c_X2_requireWithin _ _ _ _ _) ks_X2_40 rfl rfl (Nat.le_of_ble_eq_true rfl) ⟨(Nat.le_of_ble_eq_true rfl), (Nat.le_of_ble_eq_true rfl)⟩ ⟨(Nat.le_of_ble_eq_true rfl), (Nat.le_of_ble_eq_true rfl)⟩ dX2_clock_29 (fun E ws9 z => r_out hX hE (Nat.le_of_ble_eq_true rfl) (Nat.le_of_ble_eq_true rfl) (⟨by rw [z.1]; exact List.mem_cons_of_mem _ List.mem_cons_self, z.2.1⟩)) (fun v9 ws9 h10 => ?_)
  obtain ⟨a12, rfl, hw9⟩ := h10
  subst ws9
  dsimp only [mPush]
  refine r_aload_n hX dX2_clock_32 rfl rfl ?_
  refine r_aload hX dX2_clock_33 rfl ?_
  refine r_iload_n hX dX2_clock_35 rfl rfl ?_
  refine r_i2l hX dX2_clock_36 ?_
  refine r_iload_n hX dX2_clock_37 rfl rfl ?_
  refine r_iload hX dX2_clock_38 rfl ?_
  refine r_callV hX (c_X2_putClock _ _ _ _ (i3 + 4) (by omega) _ _ _) kv_X2_187 0 rfl rfl rfl rfl (Nat.le_of_ble_eq_true rfl) ⟨(Nat.le_of_ble_eq_true rfl), (Nat.le_of_ble_eq_true rfl)⟩ ⟨(Nat.le_of_ble_eq_true rfl), (Nat.le_of_ble_eq_true rfl)⟩ dX2_clock_40 (fun _ _ z => False.elim z) (fun v9 ws9 h13 => ?_)
  obtain ⟨r15, K16, hK16, rfl, hw9⟩ := h13
  subst ws9
  dsimp only [mPush]
  exact r_iret hX hE dX2_clock_43 (Nat.le_of_ble_eq_true rfl) (Nat.le_of_ble_eq_true rfl) ⟨_, K16, (hK16.trans rfl), rfl, rfl⟩
theorem dX2_clockOf_0 : decode cX2_clockOf 0 = .ok (.aload_n 0, 1) := by decide +kernel
theorem dX2_clockOf_1 : decode cX2_clockOf 1 = .ok (.getfield 24, 3) := by decide +kernel
theorem dX2_clockOf_4 : decode cX2_clockOf 4 = .ok (.iload_n 1, 1) := by decide +kernel
theorem dX2_clockOf_5 : decode cX2_clockOf 5 = .ok (.invokestatic 84, 3) := by decide +kernel
theorem dX2_clockOf_8 : decode cX2_clockOf 8 = .ok (.astore_n 3, 1) := by decide +kernel
theorem dX2_clockOf_9 : decode cX2_clockOf 9 = .ok (.aload_n 0, 1) := by decide +kernel
theorem dX2_clockOf_10 : decode cX2_clockOf 10 = .ok (.getfield 20, 3) := by decide +kernel
theorem dX2_clockOf_13 : decode cX2_clockOf 13 = .ok (.iload_n 2, 1) := by decide +kernel
theorem dX2_clockOf_14 : decode cX2_clockOf 14 = .ok (.invokestatic 84, 3) := by decide +kernel
theorem dX2_clockOf_17 : decode cX2_clockOf 17 = .ok (.astore 4, 2) := by decide +kernel
theorem dX2_clockOf_19 : decode cX2_clockOf 19 = .ok (.aload_n 0, 1) := by decide +kernel
theorem dX2_clockOf_20 : decode cX2_clockOf 20 = .ok (.aload_n 3, 1) := by decide +kernel
theorem dX2_clockOf_21 : decode cX2_clockOf 21 = .ok (.aload 4, 2) := by decide +kernel
theorem dX2_clockOf_23 : decode cX2_clockOf 23 = .ok (.getfield 146, 3) := by decide +kernel
theorem dX2_clockOf_26 : decode cX2_clockOf 26 = .ok (.aload 4, 2) := by decide +kernel
theorem dX2_clockOf_28 : decode cX2_clockOf 28 = .ok (.getfield 172, 3) := by decide +kernel
theorem dX2_clockOf_31 : decode cX2_clockOf 31 = .ok (.aload 4, 2) := by decide +kernel
theorem dX2_clockOf_33 : decode cX2_clockOf 33 = .ok (.getfield 158, 3) := by decide +kernel
theorem dX2_clockOf_36 : decode cX2_clockOf 36 = .ok (.invokevirtual 187, 3) := by decide +kernel
theorem dX2_clockOf_39 : decode cX2_clockOf 39 = .ok (.ireturn, 1) := by decide +kernel
set_option maxHeartbeats 4000000 in
set_option maxRecDepth 20000 in
theorem c_X2_clockOf (ad : Nat → Nat) (cs : ClassId × ClassId × ClassId) (K : mK) (rest : va_W) (p0 : Int32) (p1 : Int32) : mCt (mTy cs) yX2_clockOf cX2_clockOf 5 (some .int) ⟨7, 2, 12, 103⟩ [.ref (ad 0), .int p0, .int p1] (mWd ad cs K rest) (mWi ad cs K rest) (mTh [xI] (mWd ad cs K rest)) := by
  refine mCt.of (by decide +kernel) (Nat.le_of_ble_eq_true rfl) (fun X hX hE => ?_)
  have hX : mOK X RX2 cX2_clockOf 5 ⟨7, 2, 12, 103⟩ [] (mTy cs) := hX
  refine r_aload_n hX dX2_clockOf_0 rfl rfl ?_
  refine r_get hX kf_X2_24 0 rfl rfl dX2_clockOf_1 ?_
  refine r_iload_n hX dX2_clockOf_4 rfl rfl ?_
  refine r_callS hX (c_X2_at ad cs _ 4 _ 3 4 rfl (by decide) _) ks_X2_84 rfl rfl (Nat.le_of_ble_eq_true rfl) ⟨(Nat.le_of_ble_eq_true rfl), (Nat.le_of_ble_eq_true rfl)⟩ ⟨(Nat.le_of_ble_eq_true rfl), (Nat.le_of_ble_eq_true rfl)⟩ dX2_clockOf_5 (fun E ws9 z => r_out hX hE (Nat.le_of_ble_eq_true rfl) (Nat.le_of_ble_eq_true rfl) (⟨by rw [z.1]; exact List.mem_cons_self, z.2.1⟩)) (fun v9 ws9 h1 => ?_)
  obtain ⟨i3, hhi3, rfl, rfl, hw9⟩ := h1
  subst ws9
  dsimp only [mPush]
  refine r_astore_n hX dX2_clockOf_8 rfl (by decide) rfl ?_
  refine r_aload_n hX dX2_clockOf_9 rfl rfl ?_
  refine r_get hX kf_X2_20 0 rfl rfl dX2_clockOf_10 ?_
  refine r_iload_n hX dX2_clockOf_13 rfl rfl ?_
  refine r_callS hX (c_X2_at ad cs _ 3 _ 4 0 rfl (by decide) _) ks_X2_84 rfl rfl (Nat.le_of_ble_eq_true rfl) ⟨(Nat.le_of_ble_eq_true rfl), (Nat.le_of_ble_eq_true rfl)⟩ ⟨(Nat.le_of_ble_eq_true rfl), (Nat.le_of_ble_eq_true rfl)⟩ dX2_clockOf_14 (fun E ws9 z => r_out hX hE (Nat.le_of_ble_eq_true rfl) (Nat.le_of_ble_eq_true rfl) (⟨by rw [z.1]; exact List.mem_cons_self, z.2.1⟩)) (fun v9 ws9 h4 => ?_)
  obtain ⟨i6, hhi6, rfl, rfl, hw9⟩ := h4
  subst ws9
  dsimp only [mPush]
  refine r_astore hX dX2_clockOf_17 (by decide) rfl ?_
  refine r_aload_n hX dX2_clockOf_19 rfl rfl ?_
  refine r_aload_n hX dX2_clockOf_20 rfl rfl ?_
  refine r_aload hX dX2_clockOf_21 rfl ?_
  refine r_getN hX kg_X2_146 (i6 + 5) (mWd_loc (d := i6) (by omega)) rfl dX2_clockOf_23 ?_
  refine r_aload hX dX2_clockOf_26 rfl ?_
  refine r_getN hX kg_X2_172 (i6 + 5) (mWd_loc (d := i6) (by omega)) rfl dX2_clockOf_28 ?_
  refine r_aload hX dX2_clockOf_31 rfl ?_
  refine r_getN hX kg_X2_158 (i6 + 5) (mWd_loc (d := i6) (by omega)) rfl dX2_clockOf_33 ?_
  refine r_callV hX (c_X2_putClock _ _ _ _ (i3 + 4) (by omega) _ _ _) kv_X2_187 0 rfl rfl rfl rfl (Nat.le_of_ble_eq_true rfl) ⟨(Nat.le_of_ble_eq_true rfl), (Nat.le_of_ble_eq_true rfl)⟩ ⟨(Nat.le_of_ble_eq_true rfl), (Nat.le_of_ble_eq_true rfl)⟩ dX2_clockOf_36 (fun _ _ z => False.elim z) (fun v9 ws9 h7 => ?_)
  obtain ⟨r9, K10, hK10, rfl, hw9⟩ := h7
  subst ws9
  dsimp only [mPush]
  exact r_iret hX hE dX2_clockOf_39 (Nat.le_of_ble_eq_true rfl) (Nat.le_of_ble_eq_true rfl) ⟨_, K10, (hK10.trans rfl), rfl, rfl⟩
theorem dX2_strike_0 : decode cX2_strike 0 = .ok (.aload_n 0, 1) := by decide +kernel
theorem dX2_strike_1 : decode cX2_strike 1 = .ok (.getfield 20, 3) := by decide +kernel
theorem dX2_strike_4 : decode cX2_strike 4 = .ok (.iload_n 1, 1) := by decide +kernel
theorem dX2_strike_5 : decode cX2_strike 5 = .ok (.invokestatic 84, 3) := by decide +kernel
theorem dX2_strike_8 : decode cX2_strike 8 = .ok (.astore_n 3, 1) := by decide +kernel
theorem dX2_strike_9 : decode cX2_strike 9 = .ok (.aload_n 0, 1) := by decide +kernel
theorem dX2_strike_10 : decode cX2_strike 10 = .ok (.getfield 24, 3) := by decide +kernel
theorem dX2_strike_13 : decode cX2_strike 13 = .ok (.iload_n 2, 1) := by decide +kernel
theorem dX2_strike_14 : decode cX2_strike 14 = .ok (.invokestatic 84, 3) := by decide +kernel
theorem dX2_strike_17 : decode cX2_strike 17 = .ok (.astore 4, 2) := by decide +kernel
theorem dX2_strike_19 : decode cX2_strike 19 = .ok (.aload_n 0, 1) := by decide +kernel
theorem dX2_strike_20 : decode cX2_strike 20 = .ok (.aload_n 3, 1) := by decide +kernel
theorem dX2_strike_21 : decode cX2_strike 21 = .ok (.aload_n 3, 1) := by decide +kernel
theorem dX2_strike_22 : decode cX2_strike 22 = .ok (.invokevirtual 190, 3) := by decide +kernel
theorem dX2_strike_25 : decode cX2_strike 25 = .ok (.aload 4, 2) := by decide +kernel
theorem dX2_strike_27 : decode cX2_strike 27 = .ok (.getfield 146, 3) := by decide +kernel
theorem dX2_strike_30 : decode cX2_strike 30 = .ok (.ladd, 1) := by decide +kernel
theorem dX2_strike_31 : decode cX2_strike 31 = .ok (.aload 4, 2) := by decide +kernel
theorem dX2_strike_33 : decode cX2_strike 33 = .ok (.getfield 172, 3) := by decide +kernel
theorem dX2_strike_36 : decode cX2_strike 36 = .ok (.aload 4, 2) := by decide +kernel
theorem dX2_strike_38 : decode cX2_strike 38 = .ok (.getfield 158, 3) := by decide +kernel
theorem dX2_strike_41 : decode cX2_strike 41 = .ok (.invokevirtual 132, 3) := by decide +kernel
theorem dX2_strike_44 : decode cX2_strike 44 = .ok (.ireturn, 1) := by decide +kernel
set_option maxHeartbeats 4000000 in
set_option maxRecDepth 20000 in
theorem c_X2_strike (ad : Nat → Nat) (cs : ClassId × ClassId × ClassId) (K : mK) (rest : va_W) (p0 : Int32) (p1 : Int32) : mCt (mTy cs) yX2_strike cX2_strike 5 (some .int) ⟨7, 2, 12, 103⟩ [.ref (ad 0), .int p0, .int p1] (mWd ad cs K rest) (mWi ad cs K rest) (mTh [xI] (mWd ad cs K rest)) := by
  refine mCt.of (by decide +kernel) (Nat.le_of_ble_eq_true rfl) (fun X hX hE => ?_)
  have hX : mOK X RX2 cX2_strike 5 ⟨7, 2, 12, 103⟩ [] (mTy cs) := hX
  refine r_aload_n hX dX2_strike_0 rfl rfl ?_
  refine r_get hX kf_X2_20 0 rfl rfl dX2_strike_1 ?_
  refine r_iload_n hX dX2_strike_4 rfl rfl ?_
  refine r_callS hX (c_X2_at ad cs _ 3 _ 4 0 rfl (by decide) _) ks_X2_84 rfl rfl (Nat.le_of_ble_eq_true rfl) ⟨(Nat.le_of_ble_eq_true rfl), (Nat.le_of_ble_eq_true rfl)⟩ ⟨(Nat.le_of_ble_eq_true rfl), (Nat.le_of_ble_eq_true rfl)⟩ dX2_strike_5 (fun E ws9 z => r_out hX hE (Nat.le_of_ble_eq_true rfl) (Nat.le_of_ble_eq_true rfl) (⟨by rw [z.1]; exact List.mem_cons_self, z.2.1⟩)) (fun v9 ws9 h1 => ?_)
  obtain ⟨i3, hhi3, rfl, rfl, hw9⟩ := h1
  subst ws9
  dsimp only [mPush]
  refine r_astore_n hX dX2_strike_8 rfl (by decide) rfl ?_
  refine r_aload_n hX dX2_strike_9 rfl rfl ?_
  refine r_get hX kf_X2_24 0 rfl rfl dX2_strike_10 ?_
  refine r_iload_n hX dX2_strike_13 rfl rfl ?_
  refine r_callS hX (c_X2_at ad cs _ 4 _ 3 4 rfl (by decide) _) ks_X2_84 rfl rfl (Nat.le_of_ble_eq_true rfl) ⟨(Nat.le_of_ble_eq_true rfl), (Nat.le_of_ble_eq_true rfl)⟩ ⟨(Nat.le_of_ble_eq_true rfl), (Nat.le_of_ble_eq_true rfl)⟩ dX2_strike_14 (fun E ws9 z => r_out hX hE (Nat.le_of_ble_eq_true rfl) (Nat.le_of_ble_eq_true rfl) (⟨by rw [z.1]; exact List.mem_cons_self, z.2.1⟩)) (fun v9 ws9 h4 => ?_)
  obtain ⟨i6, hhi6, rfl, rfl, hw9⟩ := h4
  subst ws9
  dsimp only [mPush]
  refine r_astore hX dX2_strike_17 (by decide) rfl ?_
  refine r_aload_n hX dX2_strike_19 rfl rfl ?_
  refine r_aload_n hX dX2_strike_20 rfl rfl ?_
  refine r_aload_n hX dX2_strike_21 rfl rfl ?_
  refine r_callV hX (c_X1_beginOfDay _ _ (i3 + 5) _ _ _ _ (mWd_loc (d := i3) (by omega))) kv_X2_190 (i3 + 5) (mWd_loc (d := i3) (by omega)) rfl rfl rfl (Nat.le_of_ble_eq_true rfl) ⟨(Nat.le_of_ble_eq_true rfl), (Nat.le_of_ble_eq_true rfl)⟩ ⟨(Nat.le_of_ble_eq_true rfl), (Nat.le_of_ble_eq_true rfl)⟩ dX2_strike_22 (fun _ _ z => False.elim z) (fun v9 ws9 h7 => ?_)
  obtain ⟨r9, rfl, hw9⟩ := h7
  subst ws9
  dsimp only [mPush]
  refine r_aload hX dX2_strike_25 rfl ?_
  refine r_getN hX kg_X2_146 (i6 + 4 + 5) (mWd_loc (d := i6 + 4) (by omega)) rfl dX2_strike_27 ?_
  refine r_ladd hX dX2_strike_30 ?_
  refine r_aload hX dX2_strike_31 rfl ?_
  refine r_getN hX kg_X2_172 (i6 + 4 + 5) (mWd_loc (d := i6 + 4) (by omega)) rfl dX2_strike_33 ?_
  refine r_aload hX dX2_strike_36 rfl ?_
  refine r_getN hX kg_X2_158 (i6 + 4 + 5) (mWd_loc (d := i6 + 4) (by omega)) rfl dX2_strike_38 ?_
  refine r_callV hX (c_X2_putLocal _ _ _ _ i3 (by omega) _ _ _) kv_X2_132 0 rfl rfl rfl rfl (Nat.le_of_ble_eq_true rfl) ⟨(Nat.le_of_ble_eq_true rfl), (Nat.le_of_ble_eq_true rfl)⟩ ⟨(Nat.le_of_ble_eq_true rfl), (Nat.le_of_ble_eq_true rfl)⟩ dX2_strike_41 (fun _ _ z => False.elim z) (fun v9 ws9 h10 => ?_)
  obtain ⟨r12, K13, hK13, rfl, hw9⟩ := h10
  subst ws9
  dsimp only [mPush]
  exact r_iret hX hE dX2_strike_44 (Nat.le_of_ble_eq_true rfl) (Nat.le_of_ble_eq_true rfl) ⟨_, K13, (hK13.trans rfl), rfl, rfl⟩
theorem dX2_moveClock_0 : decode cX2_moveClock 0 = .ok (.aload_n 0, 1) := by decide +kernel
theorem dX2_moveClock_1 : decode cX2_moveClock 1 = .ok (.getfield 24, 3) := by decide +kernel
theorem dX2_moveClock_4 : decode cX2_moveClock 4 = .ok (.iload_n 1, 1) := by decide +kernel
theorem dX2_moveClock_5 : decode cX2_moveClock 5 = .ok (.invokestatic 84, 3) := by decide +kernel
theorem dX2_moveClock_8 : decode cX2_moveClock 8 = .ok (.astore 5, 2) := by decide +kernel
theorem dX2_moveClock_10 : decode cX2_moveClock 10 = .ok (.iload_n 2, 1) := by decide +kernel
theorem dX2_moveClock_11 : decode cX2_moveClock 11 = .ok (.iconst 4, 1) := by decide +kernel
theorem dX2_moveClock_12 : decode cX2_moveClock 12 = .ok (.bipush 7, 2) := by decide +kernel
theorem dX2_moveClock_14 : decode cX2_moveClock 14 = .ok (.invokestatic 40, 3) := by decide +kernel
theorem dX2_moveClock_17 : decode cX2_moveClock 17 = .ok (.iload_n 3, 1) := by decide +kernel
theorem dX2_moveClock_18 : decode cX2_moveClock 18 = .ok (.iload 4, 2) := by decide +kernel
theorem dX2_moveClock_20 : decode cX2_moveClock 20 = .ok (.invokestatic 80, 3) := by decide +kernel
theorem dX2_moveClock_23 : decode cX2_moveClock 23 = .ok (.lstore 6, 2) := by decide +kernel
theorem dX2_moveClock_25 : decode cX2_moveClock 25 = .ok (.aload_n 0, 1) := by decide +kernel
theorem dX2_moveClock_26 : decode cX2_moveClock 26 = .ok (.aload 5, 2) := by decide +kernel
theorem dX2_moveClock_28 : decode cX2_moveClock 28 = .ok (.aload 5, 2) := by decide +kernel
theorem dX2_moveClock_30 : decode cX2_moveClock 30 = .ok (.getfield 146, 3) := by decide +kernel
theorem dX2_moveClock_33 : decode cX2_moveClock 33 = .ok (.aload 5, 2) := by decide +kernel
theorem dX2_moveClock_35 : decode cX2_moveClock 35 = .ok (.iload_n 2, 1) := by decide +kernel
theorem dX2_moveClock_36 : decode cX2_moveClock 36 = .ok (.lload 6, 2) := by decide +kernel
theorem dX2_moveClock_38 : decode cX2_moveClock 38 = .ok (.invokestatic 150, 3) := by decide +kernel
theorem dX2_moveClock_41 : decode cX2_moveClock 41 = .ok (.ladd, 1) := by decide +kernel
theorem dX2_moveClock_42 : decode cX2_moveClock 42 = .ok (.aload 5, 2) := by decide +kernel
theorem dX2_moveClock_44 : decode cX2_moveClock 44 = .ok (.iload_n 2, 1) := by decide +kernel
theorem dX2_moveClock_45 : decode cX2_moveClock 45 = .ok (.lload 6, 2) := by decide +kernel
theorem dX2_moveClock_47 : decode cX2_moveClock 47 = .ok (.invokestatic 154, 3) := by decide +kernel
theorem dX2_moveClock_50 : decode cX2_moveClock 50 = .ok (.aload 5, 2) := by decide +kernel
theorem dX2_moveClock_52 : decode cX2_moveClock 52 = .ok (.getfield 158, 3) := by decide +kernel
theorem dX2_moveClock_55 : decode cX2_moveClock 55 = .ok (.invokevirtual 187, 3) := by decide +kernel
theorem dX2_moveClock_58 : decode cX2_moveClock 58 = .ok (.ireturn, 1) := by decide +kernel
set_option maxHeartbeats 4000000 in
set_option maxRecDepth 20000 in
theorem c_X2_moveClock (ad : Nat → Nat) (cs : ClassId × ClassId × ClassId) (K : mK) (rest : va_W) (p0 : Int32) (p1 : Int32) (p2 : Int32) (p3 : Int32) : mCt (mTy cs) yX2_moveClock cX2_moveClock 8 (some .int) ⟨7, 2, 12, 104⟩ [.ref (ad 0), .int p0, .int p1, .int p2, .int p3] (mWd ad cs K rest) (mWi ad cs K rest) (mTh [xI, xA] (mWd ad cs K rest)) := by
  refine mCt.of (by decide +kernel) (Nat.le_of_ble_eq_true rfl) (fun X hX hE => ?_)
  have hX : mOK X RX2 cX2_moveClock 8 ⟨7, 2, 12, 104⟩ [] (mTy cs) := hX
  refine r_aload_n hX dX2_moveClock_0 rfl rfl ?_
  refine r_get hX kf_X2_24 0 rfl rfl dX2_moveClock_1 ?_
  refine r_iload_n hX dX2_moveClock_4 rfl rfl ?_
  refine r_callS hX (c_X2_at ad cs _ 4 _ 3 4 rfl (by decide) _) ks_X2_84 rfl rfl (Nat.le_of_ble_eq_true rfl) ⟨(Nat.le_of_ble_eq_true rfl), (Nat.le_of_ble_eq_true rfl)⟩ ⟨(Nat.le_of_ble_eq_true rfl), (Nat.le_of_ble_eq_true rfl)⟩ dX2_moveClock_5 (fun E ws9 z => r_out hX hE (Nat.le_of_ble_eq_true rfl) (Nat.le_of_ble_eq_true rfl) (⟨by rw [z.1]; exact List.mem_cons_self, z.2.1⟩)) (fun v9 ws9 h1 => ?_)
  obtain ⟨i3, hhi3, rfl, rfl, hw9⟩ := h1
  subst ws9
  dsimp only [mPush]
  refine r_astore hX dX2_moveClock_8 (by decide) rfl ?_
  refine r_iload_n hX dX2_moveClock_10 rfl rfl ?_
  refine r_iconst (v := 4) hX dX2_moveClock_11 (by decide) ?_
  refine r_bipush (v := 7) hX dX2_moveClock_12 (by decide) ?_
  refine r_callS hX (c_X2_requireWithin _ _ _ _ _) ks_X2_40 rfl rfl (Nat.le_of_ble_eq_true rfl) ⟨(Nat.le_of_ble_eq_true rfl), (Nat.le_of_ble_eq_true rfl)⟩ ⟨(Nat.le_of_ble_eq_true rfl), (Nat.le_of_ble_eq_true rfl)⟩ dX2_moveClock_14 (fun E ws9 z => r_out hX hE (Nat.le_of_ble_eq_true rfl) (Nat.le_of_ble_eq_true rfl) (⟨by rw [z.1]; exact List.mem_cons_of_mem _ List.mem_cons_self, z.2.1⟩)) (fun v9 ws9 h4 => ?_)
  obtain ⟨a6, rfl, hw9⟩ := h4
  subst ws9
  dsimp only [mPush]
  refine r_iload_n hX dX2_moveClock_17 rfl rfl ?_
  refine r_iload hX dX2_moveClock_18 rfl ?_
  refine r_callS hX (c_X2_signed _ _ _ _) ks_X2_80 rfl rfl (Nat.le_of_ble_eq_true rfl) ⟨(Nat.le_of_ble_eq_true rfl), (Nat.le_of_ble_eq_true rfl)⟩ ⟨(Nat.le_of_ble_eq_true rfl), (Nat.le_of_ble_eq_true rfl)⟩ dX2_moveClock_20 (fun _ _ z => False.elim z) (fun v9 ws9 h7 => ?_)
  obtain ⟨r9, rfl, hw9⟩ := h7
  subst ws9
  dsimp only [mPush]
  refine r_lstore hX dX2_moveClock_23 (by decide) rfl ?_
  refine r_aload_n hX dX2_moveClock_25 rfl rfl ?_
  refine r_aload hX dX2_moveClock_26 rfl ?_
  refine r_aload hX dX2_moveClock_28 rfl ?_
  refine r_getN hX kg_X2_146 (i3 + 4 + 5) (mWd_loc (d := i3 + 4) (by omega)) rfl dX2_moveClock_30 ?_
  refine r_aload hX dX2_moveClock_33 rfl ?_
  refine r_iload_n hX dX2_moveClock_35 rfl rfl ?_
  refine r_lload hX dX2_moveClock_36 rfl ?_
  refine r_callS hX (c_X2_secondsOn _ _ (i3 + 4 + 5) _ _ _ _ (mWd_loc (d := i3 + 4) (by omega)) _ _) ks_X2_150 rfl rfl (Nat.le_of_ble_eq_true rfl) ⟨(Nat.le_of_ble_eq_true rfl), (Nat.le_of_ble_eq_true rfl)⟩ ⟨(Nat.le_of_ble_eq_true rfl), (Nat.le_of_ble_eq_true rfl)⟩ dX2_moveClock_38 (fun _ _ z => False.elim z) (fun v9 ws9 h10 => ?_)
  obtain ⟨r12, rfl, hw9⟩ := h10
  subst ws9
  dsimp only [mPush]
  refine r_ladd hX dX2_moveClock_41 ?_
  refine r_aload hX dX2_moveClock_42 rfl ?_
  refine r_iload_n hX dX2_moveClock_44 rfl rfl ?_
  refine r_lload hX dX2_moveClock_45 rfl ?_
  refine r_callS hX (c_X2_nanoOn _ _ (i3 + 4 + 5) _ _ _ _ (mWd_loc (d := i3 + 4) (by omega)) _ _) ks_X2_154 rfl rfl (Nat.le_of_ble_eq_true rfl) ⟨(Nat.le_of_ble_eq_true rfl), (Nat.le_of_ble_eq_true rfl)⟩ ⟨(Nat.le_of_ble_eq_true rfl), (Nat.le_of_ble_eq_true rfl)⟩ dX2_moveClock_47 (fun _ _ z => False.elim z) (fun v9 ws9 h13 => ?_)
  obtain ⟨r15, rfl, hw9⟩ := h13
  subst ws9
  dsimp only [mPush]
  refine r_aload hX dX2_moveClock_50 rfl ?_
  refine r_getN hX kg_X2_158 (i3 + 4 + 5) (mWd_loc (d := i3 + 4) (by omega)) rfl dX2_moveClock_52 ?_
  refine r_callV hX (c_X2_putClock _ _ _ _ (i3 + 4) (by omega) _ _ _) kv_X2_187 0 rfl rfl rfl rfl (Nat.le_of_ble_eq_true rfl) ⟨(Nat.le_of_ble_eq_true rfl), (Nat.le_of_ble_eq_true rfl)⟩ ⟨(Nat.le_of_ble_eq_true rfl), (Nat.le_of_ble_eq_true rfl)⟩ dX2_moveClock_55 (fun _ _ z => False.elim z) (fun v9 ws9 h16 => ?_)
  obtain ⟨r18, K19, hK19, rfl, hw9⟩ := h16
  subst ws9
  dsimp only [mPush]
  exact r_iret hX hE dX2_moveClock_58 (Nat.le_of_ble_eq_true rfl) (Nat.le_of_ble_eq_true rfl) ⟨_, K19, (hK19.trans rfl), rfl, rfl⟩
theorem dX2_anewClock_0 : decode cX2_anewClock 0 = .ok (.aload_n 0, 1) := by decide +kernel
theorem dX2_anewClock_1 : decode cX2_anewClock 1 = .ok (.getfield 24, 3) := by decide +kernel
theorem dX2_anewClock_4 : decode cX2_anewClock 4 = .ok (.iload_n 1, 1) := by decide +kernel
theorem dX2_anewClock_5 : decode cX2_anewClock 5 = .ok (.invokestatic 84, 3) := by decide +kernel
theorem dX2_anewClock_8 : decode cX2_anewClock 8 = .ok (.astore 4, 2) := by decide +kernel
theorem dX2_anewClock_10 : decode cX2_anewClock 10 = .ok (.aload_n 0, 1) := by decide +kernel
theorem dX2_anewClock_11 : decode cX2_anewClock 11 = .ok (.iload_n 2, 1) := by decide +kernel
theorem dX2_anewClock_12 : decode cX2_anewClock 12 = .ok (.invokevirtual 64, 3) := by decide +kernel
theorem dX2_anewClock_15 : decode cX2_anewClock 15 = .ok (.istore 5, 2) := by decide +kernel
theorem dX2_anewClock_17 : decode cX2_anewClock 17 = .ok (.iload_n 3, 1) := by decide +kernel
theorem dX2_anewClock_18 : decode cX2_anewClock 18 = .ok (.ifCond .eq 11, 3) := by decide +kernel
theorem dX2_anewClock_21 : decode cX2_anewClock 21 = .ok (.aload 4, 2) := by decide +kernel
theorem dX2_anewClock_23 : decode cX2_anewClock 23 = .ok (.getfield 146, 3) := by decide +kernel
theorem dX2_anewClock_26 : decode cX2_anewClock 26 = .ok (.goto 12, 3) := by decide +kernel
theorem dX2_anewClock_29 : decode cX2_anewClock 29 = .ok (.aload 4, 2) := by decide +kernel
theorem dX2_anewClock_31 : decode cX2_anewClock 31 = .ok (.invokevirtual 169, 3) := by decide +kernel
theorem dX2_anewClock_34 : decode cX2_anewClock 34 = .ok (.iload 5, 2) := by decide +kernel
theorem dX2_anewClock_36 : decode cX2_anewClock 36 = .ok (.i2l, 1) := by decide +kernel
theorem dX2_anewClock_37 : decode cX2_anewClock 37 = .ok (.ladd, 1) := by decide +kernel
theorem dX2_anewClock_38 : decode cX2_anewClock 38 = .ok (.lstore 6, 2) := by decide +kernel
theorem dX2_anewClock_40 : decode cX2_anewClock 40 = .ok (.aload_n 0, 1) := by decide +kernel
theorem dX2_anewClock_41 : decode cX2_anewClock 41 = .ok (.aload 4, 2) := by decide +kernel
theorem dX2_anewClock_43 : decode cX2_anewClock 43 = .ok (.lload 6, 2) := by decide +kernel
theorem dX2_anewClock_45 : decode cX2_anewClock 45 = .ok (.aload 4, 2) := by decide +kernel
theorem dX2_anewClock_47 : decode cX2_anewClock 47 = .ok (.getfield 172, 3) := by decide +kernel
theorem dX2_anewClock_50 : decode cX2_anewClock 50 = .ok (.iload 5, 2) := by decide +kernel
theorem dX2_anewClock_52 : decode cX2_anewClock 52 = .ok (.invokevirtual 187, 3) := by decide +kernel
theorem dX2_anewClock_55 : decode cX2_anewClock 55 = .ok (.ireturn, 1) := by decide +kernel
set_option maxHeartbeats 4000000 in
set_option maxRecDepth 20000 in
theorem c_X2_anewClock (ad : Nat → Nat) (cs : ClassId × ClassId × ClassId) (K : mK) (rest : va_W) (p0 : Int32) (p1 : Int32) (p2 : Int32) : mCt (mTy cs) yX2_anewClock cX2_anewClock 8 (some .int) ⟨8, 2, 12, 124⟩ [.ref (ad 0), .int p0, .int p1, .int p2] (mWd ad cs K rest) (mWi ad cs K rest) (mTh [xI] (mWd ad cs K rest)) := by
  refine mCt.of (by decide +kernel) (Nat.le_of_ble_eq_true rfl) (fun X hX hE => ?_)
  have hX : mOK X RX2 cX2_anewClock 8 ⟨8, 2, 12, 124⟩ [] (mTy cs) := hX
  refine r_aload_n hX dX2_anewClock_0 rfl rfl ?_
  refine r_get hX kf_X2_24 0 rfl rfl dX2_anewClock_1 ?_
  refine r_iload_n hX dX2_anewClock_4 rfl rfl ?_
  refine r_callS hX (c_X2_at ad cs _ 4 _ 3 4 rfl (by decide) _) ks_X2_84 rfl rfl (Nat.le_of_ble_eq_true rfl) ⟨(Nat.le_of_ble_eq_true rfl), (Nat.le_of_ble_eq_true rfl)⟩ ⟨(Nat.le_of_ble_eq_true rfl), (Nat.le_of_ble_eq_true rfl)⟩ dX2_anewClock_5 (fun E ws9 z => r_out hX hE (Nat.le_of_ble_eq_true rfl) (Nat.le_of_ble_eq_true rfl) (⟨by rw [z.1]; exact List.mem_cons_self, z.2.1⟩)) (fun v9 ws9 h1 => ?_)
  obtain ⟨i3, hhi3, rfl, rfl, hw9⟩ := h1
  subst ws9
  dsimp only [mPush]
  refine r_astore hX dX2_anewClock_8 (by decide) rfl ?_
  refine r_aload_n hX dX2_anewClock_10 rfl rfl ?_
  refine r_iload_n hX dX2_anewClock_11 rfl rfl ?_
  refine r_callV hX (c_X2_seconds _ _ _ _ _) kv_X2_64 0 rfl rfl rfl rfl (Nat.le_of_ble_eq_true rfl) ⟨(Nat.le_of_ble_eq_true rfl), (Nat.le_of_ble_eq_true rfl)⟩ ⟨(Nat.le_of_ble_eq_true rfl), (Nat.le_of_ble_eq_true rfl)⟩ dX2_anewClock_12 (fun E ws9 z => r_out hX hE (Nat.le_of_ble_eq_true rfl) (Nat.le_of_ble_eq_true rfl) (⟨by rw [z.1]; exact List.mem_cons_self, z.2.1⟩)) (fun v9 ws9 h4 => ?_)
  obtain ⟨i6, hhi6, rfl, rfl, hw9⟩ := h4
  subst ws9
  dsimp only [mPush]
  refine r_istore hX dX2_anewClock_15 (by decide) rfl ?_
  refine r_iload_n hX dX2_anewClock_17 rfl rfl ?_
  refine r_if_eq (tgt := 29) hX dX2_anewClock_18 (by decide) (fun c7 => ?_) (fun c7 => ?_)
  · refine r_aload hX dX2_anewClock_29 rfl ?_
    refine r_callV hX (c_X1_momentSecond _ _ (i3 + 4 + 5) _ _ _ _ (mWd_loc (d := i3 + 4) (by omega))) kv_X2_169 (i3 + 4 + 5) (mWd_loc (d := i3 + 4) (by omega)) rfl rfl rfl (Nat.le_of_ble_eq_true rfl) ⟨(Nat.le_of_ble_eq_true rfl), (Nat.le_of_ble_eq_true rfl)⟩ ⟨(Nat.le_of_ble_eq_true rfl), (Nat.le_of_ble_eq_true rfl)⟩ dX2_anewClock_31 (fun _ _ z => False.elim z) (fun v9 ws9 h8 => ?_)
    obtain ⟨r10, rfl, hw9⟩ := h8
    subst ws9
    dsimp only [mPush]
    refine r_iload hX dX2_anewClock_34 rfl ?_
    refine r_i2l hX dX2_anewClock_36 ?_
    refine r_ladd hX dX2_anewClock_37 ?_
    refine r_lstore hX dX2_anewClock_38 (by decide) rfl ?_
    refine r_aload_n hX dX2_anewClock_40 rfl rfl ?_
    refine r_aload hX dX2_anewClock_41 rfl ?_
    refine r_lload hX dX2_anewClock_43 rfl ?_
    refine r_aload hX dX2_anewClock_45 rfl ?_
    refine r_getN hX kg_X2_172 (i3 + 4 + 5) (mWd_loc (d := i3 + 4) (by omega)) rfl dX2_anewClock_47 ?_
    refine r_iload hX dX2_anewClock_50 rfl ?_
    refine r_callV hX (c_X2_putClock _ _ _ _ (i3 + 4) (by omega) _ _ _) kv_X2_187 0 rfl rfl rfl rfl (Nat.le_of_ble_eq_true rfl) ⟨(Nat.le_of_ble_eq_true rfl), (Nat.le_of_ble_eq_true rfl)⟩ ⟨(Nat.le_of_ble_eq_true rfl), (Nat.le_of_ble_eq_true rfl)⟩ dX2_anewClock_52 (fun _ _ z => False.elim z) (fun v9 ws9 h11 => ?_)
    obtain ⟨r13, K14, hK14, rfl, hw9⟩ := h11
    subst ws9
    dsimp only [mPush]
    exact r_iret hX hE dX2_anewClock_55 (Nat.le_of_ble_eq_true rfl) (Nat.le_of_ble_eq_true rfl) ⟨_, K14, (hK14.trans rfl), rfl, rfl⟩
  · refine r_aload hX dX2_anewClock_21 rfl ?_
    refine r_getN hX kg_X2_146 (i3 + 4 + 5) (mWd_loc (d := i3 + 4) (by omega)) rfl dX2_anewClock_23 ?_
    refine r_goto (tgt := 38) hX dX2_anewClock_26 (by decide) ?_
    refine r_lstore hX dX2_anewClock_38 (by decide) rfl ?_
    refine r_aload_n hX dX2_anewClock_40 rfl rfl ?_
    refine r_aload hX dX2_anewClock_41 rfl ?_
    refine r_lload hX dX2_anewClock_43 rfl ?_
    refine r_aload hX dX2_anewClock_45 rfl ?_
    refine r_getN hX kg_X2_172 (i3 + 4 + 5) (mWd_loc (d := i3 + 4) (by omega)) rfl dX2_anewClock_47 ?_
    refine r_iload hX dX2_anewClock_50 rfl ?_
    refine r_callV hX (c_X2_putClock _ _ _ _ (i3 + 4) (by omega) _ _ _) kv_X2_187 0 rfl rfl rfl rfl (Nat.le_of_ble_eq_true rfl) ⟨(Nat.le_of_ble_eq_true rfl), (Nat.le_of_ble_eq_true rfl)⟩ ⟨(Nat.le_of_ble_eq_true rfl), (Nat.le_of_ble_eq_true rfl)⟩ dX2_anewClock_52 (fun _ _ z => False.elim z) (fun v9 ws9 h15 => ?_)
    obtain ⟨r17, K18, hK18, rfl, hw9⟩ := h15
    subst ws9
    dsimp only [mPush]
    exact r_iret hX hE dX2_anewClock_55 (Nat.le_of_ble_eq_true rfl) (Nat.le_of_ble_eq_true rfl) ⟨_, K18, (hK18.trans rfl), rfl, rfl⟩
theorem dX2_copyClock_0 : decode cX2_copyClock 0 = .ok (.aload_n 0, 1) := by decide +kernel
theorem dX2_copyClock_1 : decode cX2_copyClock 1 = .ok (.getfield 24, 3) := by decide +kernel
theorem dX2_copyClock_4 : decode cX2_copyClock 4 = .ok (.iload_n 1, 1) := by decide +kernel
theorem dX2_copyClock_5 : decode cX2_copyClock 5 = .ok (.invokestatic 84, 3) := by decide +kernel
theorem dX2_copyClock_8 : decode cX2_copyClock 8 = .ok (.astore_n 3, 1) := by decide +kernel
theorem dX2_copyClock_9 : decode cX2_copyClock 9 = .ok (.aload_n 0, 1) := by decide +kernel
theorem dX2_copyClock_10 : decode cX2_copyClock 10 = .ok (.getfield 24, 3) := by decide +kernel
theorem dX2_copyClock_13 : decode cX2_copyClock 13 = .ok (.iload_n 2, 1) := by decide +kernel
theorem dX2_copyClock_14 : decode cX2_copyClock 14 = .ok (.invokestatic 84, 3) := by decide +kernel
theorem dX2_copyClock_17 : decode cX2_copyClock 17 = .ok (.astore 4, 2) := by decide +kernel
theorem dX2_copyClock_19 : decode cX2_copyClock 19 = .ok (.aload_n 0, 1) := by decide +kernel
theorem dX2_copyClock_20 : decode cX2_copyClock 20 = .ok (.aload_n 3, 1) := by decide +kernel
theorem dX2_copyClock_21 : decode cX2_copyClock 21 = .ok (.aload 4, 2) := by decide +kernel
theorem dX2_copyClock_23 : decode cX2_copyClock 23 = .ok (.getfield 146, 3) := by decide +kernel
theorem dX2_copyClock_26 : decode cX2_copyClock 26 = .ok (.aload 4, 2) := by decide +kernel
theorem dX2_copyClock_28 : decode cX2_copyClock 28 = .ok (.getfield 172, 3) := by decide +kernel
theorem dX2_copyClock_31 : decode cX2_copyClock 31 = .ok (.aload 4, 2) := by decide +kernel
theorem dX2_copyClock_33 : decode cX2_copyClock 33 = .ok (.getfield 158, 3) := by decide +kernel
theorem dX2_copyClock_36 : decode cX2_copyClock 36 = .ok (.invokevirtual 187, 3) := by decide +kernel
theorem dX2_copyClock_39 : decode cX2_copyClock 39 = .ok (.ireturn, 1) := by decide +kernel
set_option maxHeartbeats 4000000 in
set_option maxRecDepth 20000 in
theorem c_X2_copyClock (ad : Nat → Nat) (cs : ClassId × ClassId × ClassId) (K : mK) (rest : va_W) (p0 : Int32) (p1 : Int32) : mCt (mTy cs) yX2_copyClock cX2_copyClock 5 (some .int) ⟨7, 2, 12, 103⟩ [.ref (ad 0), .int p0, .int p1] (mWd ad cs K rest) (mWi ad cs K rest) (mTh [xI] (mWd ad cs K rest)) := by
  refine mCt.of (by decide +kernel) (Nat.le_of_ble_eq_true rfl) (fun X hX hE => ?_)
  have hX : mOK X RX2 cX2_copyClock 5 ⟨7, 2, 12, 103⟩ [] (mTy cs) := hX
  refine r_aload_n hX dX2_copyClock_0 rfl rfl ?_
  refine r_get hX kf_X2_24 0 rfl rfl dX2_copyClock_1 ?_
  refine r_iload_n hX dX2_copyClock_4 rfl rfl ?_
  refine r_callS hX (c_X2_at ad cs _ 4 _ 3 4 rfl (by decide) _) ks_X2_84 rfl rfl (Nat.le_of_ble_eq_true rfl) ⟨(Nat.le_of_ble_eq_true rfl), (Nat.le_of_ble_eq_true rfl)⟩ ⟨(Nat.le_of_ble_eq_true rfl), (Nat.le_of_ble_eq_true rfl)⟩ dX2_copyClock_5 (fun E ws9 z => r_out hX hE (Nat.le_of_ble_eq_true rfl) (Nat.le_of_ble_eq_true rfl) (⟨by rw [z.1]; exact List.mem_cons_self, z.2.1⟩)) (fun v9 ws9 h1 => ?_)
  obtain ⟨i3, hhi3, rfl, rfl, hw9⟩ := h1
  subst ws9
  dsimp only [mPush]
  refine r_astore_n hX dX2_copyClock_8 rfl (by decide) rfl ?_
  refine r_aload_n hX dX2_copyClock_9 rfl rfl ?_
  refine r_get hX kf_X2_24 0 rfl rfl dX2_copyClock_10 ?_
  refine r_iload_n hX dX2_copyClock_13 rfl rfl ?_
  refine r_callS hX (c_X2_at ad cs _ 4 _ 3 4 rfl (by decide) _) ks_X2_84 rfl rfl (Nat.le_of_ble_eq_true rfl) ⟨(Nat.le_of_ble_eq_true rfl), (Nat.le_of_ble_eq_true rfl)⟩ ⟨(Nat.le_of_ble_eq_true rfl), (Nat.le_of_ble_eq_true rfl)⟩ dX2_copyClock_14 (fun E ws9 z => r_out hX hE (Nat.le_of_ble_eq_true rfl) (Nat.le_of_ble_eq_true rfl) (⟨by rw [z.1]; exact List.mem_cons_self, z.2.1⟩)) (fun v9 ws9 h4 => ?_)
  obtain ⟨i6, hhi6, rfl, rfl, hw9⟩ := h4
  subst ws9
  dsimp only [mPush]
  refine r_astore hX dX2_copyClock_17 (by decide) rfl ?_
  refine r_aload_n hX dX2_copyClock_19 rfl rfl ?_
  refine r_aload_n hX dX2_copyClock_20 rfl rfl ?_
  refine r_aload hX dX2_copyClock_21 rfl ?_
  refine r_getN hX kg_X2_146 (i6 + 4 + 5) (mWd_loc (d := i6 + 4) (by omega)) rfl dX2_copyClock_23 ?_
  refine r_aload hX dX2_copyClock_26 rfl ?_
  refine r_getN hX kg_X2_172 (i6 + 4 + 5) (mWd_loc (d := i6 + 4) (by omega)) rfl dX2_copyClock_28 ?_
  refine r_aload hX dX2_copyClock_31 rfl ?_
  refine r_getN hX kg_X2_158 (i6 + 4 + 5) (mWd_loc (d := i6 + 4) (by omega)) rfl dX2_copyClock_33 ?_
  refine r_callV hX (c_X2_putClock _ _ _ _ (i3 + 4) (by omega) _ _ _) kv_X2_187 0 rfl rfl rfl rfl (Nat.le_of_ble_eq_true rfl) ⟨(Nat.le_of_ble_eq_true rfl), (Nat.le_of_ble_eq_true rfl)⟩ ⟨(Nat.le_of_ble_eq_true rfl), (Nat.le_of_ble_eq_true rfl)⟩ dX2_copyClock_36 (fun _ _ z => False.elim z) (fun v9 ws9 h7 => ?_)
  obtain ⟨r9, K10, hK10, rfl, hw9⟩ := h7
  subst ws9
  dsimp only [mPush]
  exact r_iret hX hE dX2_copyClock_39 (Nat.le_of_ble_eq_true rfl) (Nat.le_of_ble_eq_true rfl) ⟨_, K10, (hK10.trans rfl), rfl, rfl⟩
theorem dX2_ofClock_0 : decode cX2_ofClock 0 = .ok (.aload_n 0, 1) := by decide +kernel
theorem dX2_ofClock_1 : decode cX2_ofClock 1 = .ok (.getfield 24, 3) := by decide +kernel
theorem dX2_ofClock_4 : decode cX2_ofClock 4 = .ok (.iload_n 1, 1) := by decide +kernel
theorem dX2_ofClock_5 : decode cX2_ofClock 5 = .ok (.invokestatic 84, 3) := by decide +kernel
theorem dX2_ofClock_8 : decode cX2_ofClock 8 = .ok (.astore_n 3, 1) := by decide +kernel
theorem dX2_ofClock_9 : decode cX2_ofClock 9 = .ok (.iload_n 2, 1) := by decide +kernel
theorem dX2_ofClock_10 : decode cX2_ofClock 10 = .ok (.iconst 0, 1) := by decide +kernel
theorem dX2_ofClock_11 : decode cX2_ofClock 11 = .ok (.iconst 5, 1) := by decide +kernel
theorem dX2_ofClock_12 : decode cX2_ofClock 12 = .ok (.invokestatic 40, 3) := by decide +kernel
theorem dX2_ofClock_15 : decode cX2_ofClock 15 = .ok (.aload_n 3, 1) := by decide +kernel
theorem dX2_ofClock_16 : decode cX2_ofClock 16 = .ok (.iload_n 2, 1) := by decide +kernel
theorem dX2_ofClock_17 : decode cX2_ofClock 17 = .ok (.invokestatic 193, 3) := by decide +kernel
theorem dX2_ofClock_20 : decode cX2_ofClock 20 = .ok (.ireturn, 1) := by decide +kernel
set_option maxHeartbeats 4000000 in
set_option maxRecDepth 20000 in
theorem c_X2_ofClock (ad : Nat → Nat) (cs : ClassId × ClassId × ClassId) (K : mK) (rest : va_W) (p0 : Int32) (p1 : Int32) : mCt (mTy cs) yX2_ofClock cX2_ofClock 4 (some .int) ⟨7, 2, 12, 104⟩ [.ref (ad 0), .int p0, .int p1] (mWd ad cs K rest) (mWi ad cs K rest) (mTh [xI, xA] (mWd ad cs K rest)) := by
  refine mCt.of (by decide +kernel) (Nat.le_of_ble_eq_true rfl) (fun X hX hE => ?_)
  have hX : mOK X RX2 cX2_ofClock 4 ⟨7, 2, 12, 104⟩ [] (mTy cs) := hX
  refine r_aload_n hX dX2_ofClock_0 rfl rfl ?_
  refine r_get hX kf_X2_24 0 rfl rfl dX2_ofClock_1 ?_
  refine r_iload_n hX dX2_ofClock_4 rfl rfl ?_
  refine r_callS hX (c_X2_at ad cs _ 4 _ 3 4 rfl (by decide) _) ks_X2_84 rfl rfl (Nat.le_of_ble_eq_true rfl) ⟨(Nat.le_of_ble_eq_true rfl), (Nat.le_of_ble_eq_true rfl)⟩ ⟨(Nat.le_of_ble_eq_true rfl), (Nat.le_of_ble_eq_true rfl)⟩ dX2_ofClock_5 (fun E ws9 z => r_out hX hE (Nat.le_of_ble_eq_true rfl) (Nat.le_of_ble_eq_true rfl) (⟨by rw [z.1]; exact List.mem_cons_self, z.2.1⟩)) (fun v9 ws9 h1 => ?_)
  obtain ⟨i3, hhi3, rfl, rfl, hw9⟩ := h1
  subst ws9
  dsimp only [mPush]
  refine r_astore_n hX dX2_ofClock_8 rfl (by decide) rfl ?_
  refine r_iload_n hX dX2_ofClock_9 rfl rfl ?_
  refine r_iconst (v := 0) hX dX2_ofClock_10 (by decide) ?_
  refine r_iconst (v := 5) hX dX2_ofClock_11 (by decide) ?_
  refine r_callS hX (c_X2_requireWithin _ _ _ _ _) ks_X2_40 rfl rfl (Nat.le_of_ble_eq_true rfl) ⟨(Nat.le_of_ble_eq_true rfl), (Nat.le_of_ble_eq_true rfl)⟩ ⟨(Nat.le_of_ble_eq_true rfl), (Nat.le_of_ble_eq_true rfl)⟩ dX2_ofClock_12 (fun E ws9 z => r_out hX hE (Nat.le_of_ble_eq_true rfl) (Nat.le_of_ble_eq_true rfl) (⟨by rw [z.1]; exact List.mem_cons_of_mem _ List.mem_cons_self, z.2.1⟩)) (fun v9 ws9 h4 => ?_)
  obtain ⟨a6, rfl, hw9⟩ := h4
  subst ws9
  dsimp only [mPush]
  refine r_aload_n hX dX2_ofClock_15 rfl rfl ?_
  refine r_iload_n hX dX2_ofClock_16 rfl rfl ?_
  refine r_callS hX (c_X2_clockPart _ _ (i3 + 4 + 5) _ _ _ _ (mWd_loc (d := i3 + 4) (by omega)) _) ks_X2_193 rfl rfl (Nat.le_of_ble_eq_true rfl) ⟨(Nat.le_of_ble_eq_true rfl), (Nat.le_of_ble_eq_true rfl)⟩ ⟨(Nat.le_of_ble_eq_true rfl), (Nat.le_of_ble_eq_true rfl)⟩ dX2_ofClock_17 (fun _ _ z => False.elim z) (fun v9 ws9 h7 => ?_)
  obtain ⟨r9, rfl, hw9⟩ := h7
  subst ws9
  dsimp only [mPush]
  exact r_iret hX hE dX2_ofClock_20 (Nat.le_of_ble_eq_true rfl) (Nat.le_of_ble_eq_true rfl) ⟨_, K, rfl, rfl, rfl⟩
theorem dX2_orderClock_0 : decode cX2_orderClock 0 = .ok (.aload_n 0, 1) := by decide +kernel
theorem dX2_orderClock_1 : decode cX2_orderClock 1 = .ok (.getfield 24, 3) := by decide +kernel
theorem dX2_orderClock_4 : decode cX2_orderClock 4 = .ok (.iload_n 1, 1) := by decide +kernel
theorem dX2_orderClock_5 : decode cX2_orderClock 5 = .ok (.invokestatic 84, 3) := by decide +kernel
theorem dX2_orderClock_8 : decode cX2_orderClock 8 = .ok (.aload_n 0, 1) := by decide +kernel
theorem dX2_orderClock_9 : decode cX2_orderClock 9 = .ok (.getfield 24, 3) := by decide +kernel
theorem dX2_orderClock_12 : decode cX2_orderClock 12 = .ok (.iload_n 2, 1) := by decide +kernel
theorem dX2_orderClock_13 : decode cX2_orderClock 13 = .ok (.invokestatic 84, 3) := by decide +kernel
theorem dX2_orderClock_16 : decode cX2_orderClock 16 = .ok (.invokevirtual 179, 3) := by decide +kernel
theorem dX2_orderClock_19 : decode cX2_orderClock 19 = .ok (.ireturn, 1) := by decide +kernel
set_option maxHeartbeats 4000000 in
set_option maxRecDepth 20000 in
theorem c_X2_orderClock (ad : Nat → Nat) (cs : ClassId × ClassId × ClassId) (K : mK) (rest : va_W) (p0 : Int32) (p1 : Int32) : mCt (mTy cs) yX2_orderClock cX2_orderClock 3 (some .int) ⟨7, 2, 12, 103⟩ [.ref (ad 0), .int p0, .int p1] (mWd ad cs K rest) (mWi ad cs K rest) (mTh [xI] (mWd ad cs K rest)) := by
  refine mCt.of (by decide +kernel) (Nat.le_of_ble_eq_true rfl) (fun X hX hE => ?_)
  have hX : mOK X RX2 cX2_orderClock 3 ⟨7, 2, 12, 103⟩ [] (mTy cs) := hX
  refine r_aload_n hX dX2_orderClock_0 rfl rfl ?_
  refine r_get hX kf_X2_24 0 rfl rfl dX2_orderClock_1 ?_
  refine r_iload_n hX dX2_orderClock_4 rfl rfl ?_
  refine r_callS hX (c_X2_at ad cs _ 4 _ 3 4 rfl (by decide) _) ks_X2_84 rfl rfl (Nat.le_of_ble_eq_true rfl) ⟨(Nat.le_of_ble_eq_true rfl), (Nat.le_of_ble_eq_true rfl)⟩ ⟨(Nat.le_of_ble_eq_true rfl), (Nat.le_of_ble_eq_true rfl)⟩ dX2_orderClock_5 (fun E ws9 z => r_out hX hE (Nat.le_of_ble_eq_true rfl) (Nat.le_of_ble_eq_true rfl) (⟨by rw [z.1]; exact List.mem_cons_self, z.2.1⟩)) (fun v9 ws9 h1 => ?_)
  obtain ⟨i3, hhi3, rfl, rfl, hw9⟩ := h1
  subst ws9
  dsimp only [mPush]
  refine r_aload_n hX dX2_orderClock_8 rfl rfl ?_
  refine r_get hX kf_X2_24 0 rfl rfl dX2_orderClock_9 ?_
  refine r_iload_n hX dX2_orderClock_12 rfl rfl ?_
  refine r_callS hX (c_X2_at ad cs _ 4 _ 3 4 rfl (by decide) _) ks_X2_84 rfl rfl (Nat.le_of_ble_eq_true rfl) ⟨(Nat.le_of_ble_eq_true rfl), (Nat.le_of_ble_eq_true rfl)⟩ ⟨(Nat.le_of_ble_eq_true rfl), (Nat.le_of_ble_eq_true rfl)⟩ dX2_orderClock_13 (fun E ws9 z => r_out hX hE (Nat.le_of_ble_eq_true rfl) (Nat.le_of_ble_eq_true rfl) (⟨by rw [z.1]; exact List.mem_cons_self, z.2.1⟩)) (fun v9 ws9 h4 => ?_)
  obtain ⟨i6, hhi6, rfl, rfl, hw9⟩ := h4
  subst ws9
  dsimp only [mPush]
  refine r_callV hX (c_X1_orderTo _ _ (i3 + 4 + 5) _ _ _ _ (mWd_loc (d := i3 + 4) (by omega)) (i6 + 4 + 5) _ _ _ _ (mWd_loc (d := i6 + 4) (by omega))) kv_X2_179 (i3 + 4 + 5) (mWd_loc (d := i3 + 4) (by omega)) rfl rfl rfl (Nat.le_of_ble_eq_true rfl) ⟨(Nat.le_of_ble_eq_true rfl), (Nat.le_of_ble_eq_true rfl)⟩ ⟨(Nat.le_of_ble_eq_true rfl), (Nat.le_of_ble_eq_true rfl)⟩ dX2_orderClock_16 (fun _ _ z => False.elim z) (fun v9 ws9 h7 => ?_)
  obtain ⟨r9, rfl, hw9⟩ := h7
  subst ws9
  dsimp only [mPush]
  exact r_iret hX hE dX2_orderClock_19 (Nat.le_of_ble_eq_true rfl) (Nat.le_of_ble_eq_true rfl) ⟨_, K, rfl, rfl, rfl⟩
theorem dX2_isClock_0 : decode cX2_isClock 0 = .ok (.aload_n 0, 1) := by decide +kernel
theorem dX2_isClock_1 : decode cX2_isClock 1 = .ok (.getfield 24, 3) := by decide +kernel
theorem dX2_isClock_4 : decode cX2_isClock 4 = .ok (.iload_n 1, 1) := by decide +kernel
theorem dX2_isClock_5 : decode cX2_isClock 5 = .ok (.invokestatic 84, 3) := by decide +kernel
theorem dX2_isClock_8 : decode cX2_isClock 8 = .ok (.astore 4, 2) := by decide +kernel
theorem dX2_isClock_10 : decode cX2_isClock 10 = .ok (.aload_n 0, 1) := by decide +kernel
theorem dX2_isClock_11 : decode cX2_isClock 11 = .ok (.getfield 24, 3) := by decide +kernel
theorem dX2_isClock_14 : decode cX2_isClock 14 = .ok (.iload_n 2, 1) := by decide +kernel
theorem dX2_isClock_15 : decode cX2_isClock 15 = .ok (.invokestatic 84, 3) := by decide +kernel
theorem dX2_isClock_18 : decode cX2_isClock 18 = .ok (.astore 5, 2) := by decide +kernel
theorem dX2_isClock_20 : decode cX2_isClock 20 = .ok (.iload_n 3, 1) := by decide +kernel
theorem dX2_isClock_21 : decode cX2_isClock 21 = .ok (.iconst 0, 1) := by decide +kernel
theorem dX2_isClock_22 : decode cX2_isClock 22 = .ok (.iconst 3, 1) := by decide +kernel
theorem dX2_isClock_23 : decode cX2_isClock 23 = .ok (.invokestatic 40, 3) := by decide +kernel
theorem dX2_isClock_26 : decode cX2_isClock 26 = .ok (.aload 4, 2) := by decide +kernel
theorem dX2_isClock_28 : decode cX2_isClock 28 = .ok (.aload 5, 2) := by decide +kernel
theorem dX2_isClock_30 : decode cX2_isClock 30 = .ok (.iload_n 3, 1) := by decide +kernel
theorem dX2_isClock_31 : decode cX2_isClock 31 = .ok (.invokestatic 183, 3) := by decide +kernel
theorem dX2_isClock_34 : decode cX2_isClock 34 = .ok (.ireturn, 1) := by decide +kernel
set_option maxHeartbeats 4000000 in
set_option maxRecDepth 20000 in
theorem c_X2_isClock (ad : Nat → Nat) (cs : ClassId × ClassId × ClassId) (K : mK) (rest : va_W) (p0 : Int32) (p1 : Int32) (p2 : Int32) : mCt (mTy cs) yX2_isClock cX2_isClock 6 (some .boolean) ⟨7, 3, 18, 104⟩ [.ref (ad 0), .int p0, .int p1, .int p2] (mWd ad cs K rest) (mWb ad cs K rest) (mTh [xI, xA] (mWd ad cs K rest)) := by
  refine mCt.of (by decide +kernel) (Nat.le_of_ble_eq_true rfl) (fun X hX hE => ?_)
  have hX : mOK X RX2 cX2_isClock 6 ⟨7, 3, 18, 104⟩ [] (mTy cs) := hX
  refine r_aload_n hX dX2_isClock_0 rfl rfl ?_
  refine r_get hX kf_X2_24 0 rfl rfl dX2_isClock_1 ?_
  refine r_iload_n hX dX2_isClock_4 rfl rfl ?_
  refine r_callS hX (c_X2_at ad cs _ 4 _ 3 4 rfl (by decide) _) ks_X2_84 rfl rfl (Nat.le_of_ble_eq_true rfl) ⟨(Nat.le_of_ble_eq_true rfl), (Nat.le_of_ble_eq_true rfl)⟩ ⟨(Nat.le_of_ble_eq_true rfl), (Nat.le_of_ble_eq_true rfl)⟩ dX2_isClock_5 (fun E ws9 z => r_out hX hE (Nat.le_of_ble_eq_true rfl) (Nat.le_of_ble_eq_true rfl) (⟨by rw [z.1]; exact List.mem_cons_self, z.2.1⟩)) (fun v9 ws9 h1 => ?_)
  obtain ⟨i3, hhi3, rfl, rfl, hw9⟩ := h1
  subst ws9
  dsimp only [mPush]
  refine r_astore hX dX2_isClock_8 (by decide) rfl ?_
  refine r_aload_n hX dX2_isClock_10 rfl rfl ?_
  refine r_get hX kf_X2_24 0 rfl rfl dX2_isClock_11 ?_
  refine r_iload_n hX dX2_isClock_14 rfl rfl ?_
  refine r_callS hX (c_X2_at ad cs _ 4 _ 3 4 rfl (by decide) _) ks_X2_84 rfl rfl (Nat.le_of_ble_eq_true rfl) ⟨(Nat.le_of_ble_eq_true rfl), (Nat.le_of_ble_eq_true rfl)⟩ ⟨(Nat.le_of_ble_eq_true rfl), (Nat.le_of_ble_eq_true rfl)⟩ dX2_isClock_15 (fun E ws9 z => r_out hX hE (Nat.le_of_ble_eq_true rfl) (Nat.le_of_ble_eq_true rfl) (⟨by rw [z.1]; exact List.mem_cons_self, z.2.1⟩)) (fun v9 ws9 h4 => ?_)
  obtain ⟨i6, hhi6, rfl, rfl, hw9⟩ := h4
  subst ws9
  dsimp only [mPush]
  refine r_astore hX dX2_isClock_18 (by decide) rfl ?_
  refine r_iload_n hX dX2_isClock_20 rfl rfl ?_
  refine r_iconst (v := 0) hX dX2_isClock_21 (by decide) ?_
  refine r_iconst (v := 3) hX dX2_isClock_22 (by decide) ?_
  refine r_callS hX (c_X2_requireWithin _ _ _ _ _) ks_X2_40 rfl rfl (Nat.le_of_ble_eq_true rfl) ⟨(Nat.le_of_ble_eq_true rfl), (Nat.le_of_ble_eq_true rfl)⟩ ⟨(Nat.le_of_ble_eq_true rfl), (Nat.le_of_ble_eq_true rfl)⟩ dX2_isClock_23 (fun E ws9 z => r_out hX hE (Nat.le_of_ble_eq_true rfl) (Nat.le_of_ble_eq_true rfl) (⟨by rw [z.1]; exact List.mem_cons_of_mem _ List.mem_cons_self, z.2.1⟩)) (fun v9 ws9 h7 => ?_)
  obtain ⟨a9, rfl, hw9⟩ := h7
  subst ws9
  dsimp only [mPush]
  refine r_aload hX dX2_isClock_26 rfl ?_
  refine r_aload hX dX2_isClock_28 rfl ?_
  refine r_iload_n hX dX2_isClock_30 rfl rfl ?_
  refine r_callS hX (c_X2_isSo _ _ (i3 + 4 + 5) _ _ _ _ (mWd_loc (d := i3 + 4) (by omega)) (i6 + 4 + 5) _ _ _ _ (mWd_loc (d := i6 + 4) (by omega)) _) ks_X2_183 rfl rfl (Nat.le_of_ble_eq_true rfl) ⟨(Nat.le_of_ble_eq_true rfl), (Nat.le_of_ble_eq_true rfl)⟩ ⟨(Nat.le_of_ble_eq_true rfl), (Nat.le_of_ble_eq_true rfl)⟩ dX2_isClock_31 (fun _ _ z => False.elim z) (fun v9 ws9 h10 => ?_)
  obtain ⟨r12, br12, rfl, hw9⟩ := h10
  subst ws9
  dsimp only [mPush]
  exact r_zret hX hE dX2_isClock_34 (mB_n br12) (Nat.le_of_ble_eq_true rfl) (Nat.le_of_ble_eq_true rfl) ⟨_, K, br12, rfl, rfl, rfl⟩
theorem dX2_knock_0 : decode cX2_knock 0 = .ok (.aload_n 0, 1) := by decide +kernel
theorem dX2_knock_1 : decode cX2_knock 1 = .ok (.dup, 1) := by decide +kernel
theorem dX2_knock_2 : decode cX2_knock 2 = .ok (.getfield 196, 3) := by decide +kernel
theorem dX2_knock_5 : decode cX2_knock 5 = .ok (.iconst 1, 1) := by decide +kernel
theorem dX2_knock_6 : decode cX2_knock 6 = .ok (.iadd, 1) := by decide +kernel
theorem dX2_knock_7 : decode cX2_knock 7 = .ok (.putfield 196, 3) := by decide +kernel
theorem dX2_knock_10 : decode cX2_knock 10 = .ok (.aload_n 0, 1) := by decide +kernel
theorem dX2_knock_11 : decode cX2_knock 11 = .ok (.getfield 196, 3) := by decide +kernel
theorem dX2_knock_14 : decode cX2_knock 14 = .ok (.ireturn, 1) := by decide +kernel
set_option maxHeartbeats 4000000 in
set_option maxRecDepth 20000 in
theorem c_X2_knock (ad : Nat → Nat) (cs : ClassId × ClassId × ClassId) (K : mK) (rest : va_W) : mCt (mTy cs) yX2_knock cX2_knock 1 (some .int) ⟨0, 0, 0, 0⟩ [.ref (ad 0)] (mWd ad cs K rest) (mWi ad cs K rest) mNo := by
  refine mCt.of (by decide +kernel) (Nat.le_of_ble_eq_true rfl) (fun X hX hE => ?_)
  have hX : mOK X RX2 cX2_knock 1 ⟨0, 0, 0, 0⟩ [] (mTy cs) := hX
  refine r_aload_n hX dX2_knock_0 rfl rfl ?_
  refine r_dup hX dX2_knock_1 rfl ?_
  refine r_get hX kf_X2_196 0 rfl rfl dX2_knock_2 ?_
  refine r_iconst (v := 1) hX dX2_knock_5 (by decide) ?_
  refine r_iadd hX dX2_knock_6 ?_
  refine r_put hX kf_X2_196 0 rfl rfl rfl rfl (Nat.le_of_ble_eq_true rfl) dX2_knock_7 ?_
  refine r_aload_n hX dX2_knock_10 rfl rfl ?_
  refine r_get hX kf_X2_196 0 rfl rfl dX2_knock_11 ?_
  exact r_iret hX hE dX2_knock_14 (Nat.le_of_ble_eq_true rfl) (Nat.le_of_ble_eq_true rfl) ⟨_, (K.1, K.2.1, K.2.2.1, K.2.2.2.1 + 1, K.2.2.2.2), rfl, rfl, rfl⟩
