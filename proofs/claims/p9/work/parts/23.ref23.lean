/-! The reference, its contracts (rows by a program of this repository). -/
theorem dX4_no_w0 : (cX4_no.data.toList.drop 0).take 64 = [42, 89, 180, 0, 33, 4, 96, 181, 0, 33, 16, 247, 172] := by decide +kernel
theorem dX4_no_0 : decode cX4_no 0 = .ok (.aload_n 0, 1) := dk_42 (dq_lk dX4_no_w0 (r := 0) (x := 42) rfl)
theorem dX4_no_1 : decode cX4_no 1 = .ok (.dup, 1) := dk_89 (dq_lk dX4_no_w0 (r := 1) (x := 89) rfl)
theorem dX4_no_2 : decode cX4_no 2 = .ok (.getfield 33, 3) := dk_180 (dq_lk dX4_no_w0 (r := 2) (x := 180) rfl) (dq_lk dX4_no_w0 (r := 3) (x := 0) rfl) (dq_lk dX4_no_w0 (r := 4) (x := 33) rfl)
theorem dX4_no_5 : decode cX4_no 5 = .ok (.iconst 1, 1) := dk_4 (dq_lk dX4_no_w0 (r := 5) (x := 4) rfl)
theorem dX4_no_6 : decode cX4_no 6 = .ok (.iadd, 1) := dk_96 (dq_lk dX4_no_w0 (r := 6) (x := 96) rfl)
theorem dX4_no_7 : decode cX4_no 7 = .ok (.putfield 33, 3) := dk_181 (dq_lk dX4_no_w0 (r := 7) (x := 181) rfl) (dq_lk dX4_no_w0 (r := 8) (x := 0) rfl) (dq_lk dX4_no_w0 (r := 9) (x := 33) rfl)
theorem dX4_no_10 : decode cX4_no 10 = .ok (.bipush (-9), 2) := dk_16 (dq_lk dX4_no_w0 (r := 10) (x := 16) rfl) (dq_lk dX4_no_w0 (r := 11) (x := 247) rfl) (by decide +kernel)
theorem dX4_no_12 : decode cX4_no 12 = .ok (.ireturn, 1) := dk_172 (dq_lk dX4_no_w0 (r := 12) (x := 172) rfl)
theorem c_X4_no (ad ae : Nat → Nat) (cs : ClassId × ClassId × ClassId) (K : mK) (J : mJ) (rest : va_W) : mCt (mTy cs) yX4_no cX4_no 1 (some .int) ⟨0, 0, 0, 0⟩ [.ref (ae 0)] (mRw ad ae cs K J rest) (fun v ws' => ∃ J', J'.1 = (J.1.1, J.1.2.1, J.1.2.2 + 1) ∧ J'.2 = J.2 ∧ v = some (.int (-9)) ∧ ws' = mRw ad ae cs K J' rest) mNo := by
  refine mCt.of (by decide +kernel) (Nat.le_of_ble_eq_true rfl) (fun X hX hE => ?_)
  replace hX : mOK X RX4 cX4_no 1 ⟨0, 0, 0, 0⟩ [] (mTy cs) := hX
  refine r_aload_n hX dX4_no_0 rfl rfl ?_
  refine r_dup hX dX4_no_1 rfl ?_
  refine r_get hX kf_X4_33 14 rfl rfl dX4_no_2 ?_
  refine r_iconst (v := 1) hX dX4_no_5 (by decide) ?_
  refine r_iadd hX dX4_no_6 ?_
  refine r_put hX kf_X4_33 14 rfl rfl rfl rfl (Nat.le_of_ble_eq_true rfl) dX4_no_7 ?_
  refine r_bipush (v := -9) hX dX4_no_10 (by decide) ?_
  exact r_iret hX hE dX4_no_12 (Nat.le_of_ble_eq_true rfl) (Nat.le_of_ble_eq_true rfl) ⟨((J.1.1, J.1.2.1, J.1.2.2 + 1), J.2), rfl, rfl, rfl, rfl⟩
set_option maxHeartbeats 4000000 in
set_option maxRecDepth 20000 in
theorem c_X4_whole (tys : List (ClassId × FieldType)) (ws : va_W) (p0 : Int64) (p1 : Int64) (h0 : ¬ p1 = 0) : mCt tys yX4_whole cX4_whole 4 (some .long) ⟨0, 0, 0, 0⟩ [.long p0, .long p1] ws (mRl ws) mNo := by
  refine mCt.of (by decide +kernel) (Nat.le_of_ble_eq_true rfl) (fun X hX hE => ?_)
  have hX : mOK X RX4 cX4_whole 4 ⟨0, 0, 0, 0⟩ [] tys := hX
  refine r_lload_n hX dX4_whole_0 rfl rfl ?_
  refine r_lconst (v := 0) hX dX4_whole_1 (by decide) ?_
  refine r_lcmp hX dX4_whole_2 ?_
  refine r_if_lt (tgt := 12) hX dX4_whole_3 (by decide) (fun c1 => ?_) (fun c1 => ?_)
  · refine r_lload_n hX dX4_whole_12 rfl rfl ?_
    refine r_lneg hX dX4_whole_13 ?_
    refine r_lload_n hX dX4_whole_14 rfl rfl ?_
    refine r_ladd hX dX4_whole_15 ?_
    refine r_lconst (v := 1) hX dX4_whole_16 (by decide) ?_
    refine r_lsub hX dX4_whole_17 ?_
    refine r_lload_n hX dX4_whole_18 rfl rfl ?_
    refine r_ldiv hX dX4_whole_19 (by first | decide | assumption) ?_
    refine r_lneg hX dX4_whole_20 ?_
    exact r_lret hX hE dX4_whole_21 (Nat.le_of_ble_eq_true rfl) (Nat.le_of_ble_eq_true rfl) ⟨_, rfl, rfl⟩
  · refine r_lload_n hX dX4_whole_6 rfl rfl ?_
    refine r_lload_n hX dX4_whole_7 rfl rfl ?_
    refine r_ldiv hX dX4_whole_8 (by first | decide | assumption) ?_
    refine r_goto (tgt := 21) hX dX4_whole_9 (by decide) ?_
    exact r_lret hX hE dX4_whole_21 (Nat.le_of_ble_eq_true rfl) (Nat.le_of_ble_eq_true rfl) ⟨_, rfl, rfl⟩
theorem dX4_order_w0 : (cX4_order.data.toList.drop 0).take 64 = [30, 32, 148, 156, 0, 7, 2, 167, 0, 17, 30, 32, 148, 158, 0, 7, 4, 167, 0, 4, 3, 184, 0, 84, 172] := by decide +kernel
theorem dX4_order_0 : decode cX4_order 0 = .ok (.lload_n 0, 1) := dk_30 (dq_lk dX4_order_w0 (r := 0) (x := 30) rfl)
theorem dX4_order_1 : decode cX4_order 1 = .ok (.lload_n 2, 1) := dk_32 (dq_lk dX4_order_w0 (r := 1) (x := 32) rfl)
theorem dX4_order_2 : decode cX4_order 2 = .ok (.lcmp, 1) := dk_148 (dq_lk dX4_order_w0 (r := 2) (x := 148) rfl)
theorem dX4_order_3 : decode cX4_order 3 = .ok (.ifCond .ge 7, 3) := dk_156 (dq_lk dX4_order_w0 (r := 3) (x := 156) rfl) (dq_lk dX4_order_w0 (r := 4) (x := 0) rfl) (dq_lk dX4_order_w0 (r := 5) (x := 7) rfl) (by decide +kernel)
theorem dX4_order_6 : decode cX4_order 6 = .ok (.iconst (-1), 1) := dk_2 (dq_lk dX4_order_w0 (r := 6) (x := 2) rfl)
theorem dX4_order_7 : decode cX4_order 7 = .ok (.goto 17, 3) := dk_167 (dq_lk dX4_order_w0 (r := 7) (x := 167) rfl) (dq_lk dX4_order_w0 (r := 8) (x := 0) rfl) (dq_lk dX4_order_w0 (r := 9) (x := 17) rfl) (by decide +kernel)
theorem dX4_order_10 : decode cX4_order 10 = .ok (.lload_n 0, 1) := dk_30 (dq_lk dX4_order_w0 (r := 10) (x := 30) rfl)
theorem dX4_order_11 : decode cX4_order 11 = .ok (.lload_n 2, 1) := dk_32 (dq_lk dX4_order_w0 (r := 11) (x := 32) rfl)
theorem dX4_order_12 : decode cX4_order 12 = .ok (.lcmp, 1) := dk_148 (dq_lk dX4_order_w0 (r := 12) (x := 148) rfl)
theorem dX4_order_13 : decode cX4_order 13 = .ok (.ifCond .le 7, 3) := dk_158 (dq_lk dX4_order_w0 (r := 13) (x := 158) rfl) (dq_lk dX4_order_w0 (r := 14) (x := 0) rfl) (dq_lk dX4_order_w0 (r := 15) (x := 7) rfl) (by decide +kernel)
theorem dX4_order_16 : decode cX4_order 16 = .ok (.iconst 1, 1) := dk_4 (dq_lk dX4_order_w0 (r := 16) (x := 4) rfl)
theorem dX4_order_17 : decode cX4_order 17 = .ok (.goto 4, 3) := dk_167 (dq_lk dX4_order_w0 (r := 17) (x := 167) rfl) (dq_lk dX4_order_w0 (r := 18) (x := 0) rfl) (dq_lk dX4_order_w0 (r := 19) (x := 4) rfl) (by decide +kernel)
theorem dX4_order_20 : decode cX4_order 20 = .ok (.iconst 0, 1) := dk_3 (dq_lk dX4_order_w0 (r := 20) (x := 3) rfl)
theorem dX4_order_21 : decode cX4_order 21 = .ok (.invokestatic 84, 3) := dk_184 (dq_lk dX4_order_w0 (r := 21) (x := 184) rfl) (dq_lk dX4_order_w0 (r := 22) (x := 0) rfl) (dq_lk dX4_order_w0 (r := 23) (x := 84) rfl)
theorem dX4_order_24 : decode cX4_order 24 = .ok (.ireturn, 1) := dk_172 (dq_lk dX4_order_w0 (r := 24) (x := 172) rfl)
theorem dX4_secondsOf_w0 : (cX4_secondsOf.data.toList.drop 0).take 64 = [26, 7, 160, 0, 9, 17, 14, 16, 167, 0, 27, 26, 8, 160, 0, 8, 16, 60, 167, 0, 17, 26, 16, 6, 160, 0, 7, 4, 167, 0, 4, 3, 184, 0, 84, 172] := by decide +kernel
theorem dX4_secondsOf_0 : decode cX4_secondsOf 0 = .ok (.iload_n 0, 1) := dk_26 (dq_lk dX4_secondsOf_w0 (r := 0) (x := 26) rfl)
theorem dX4_secondsOf_1 : decode cX4_secondsOf 1 = .ok (.iconst 4, 1) := dk_7 (dq_lk dX4_secondsOf_w0 (r := 1) (x := 7) rfl)
theorem dX4_secondsOf_2 : decode cX4_secondsOf 2 = .ok (.if_icmp .ne 9, 3) := dk_160 (dq_lk dX4_secondsOf_w0 (r := 2) (x := 160) rfl) (dq_lk dX4_secondsOf_w0 (r := 3) (x := 0) rfl) (dq_lk dX4_secondsOf_w0 (r := 4) (x := 9) rfl) (by decide +kernel)
theorem dX4_secondsOf_5 : decode cX4_secondsOf 5 = .ok (.sipush 3600, 3) := dk_17 (dq_lk dX4_secondsOf_w0 (r := 5) (x := 17) rfl) (dq_lk dX4_secondsOf_w0 (r := 6) (x := 14) rfl) (dq_lk dX4_secondsOf_w0 (r := 7) (x := 16) rfl) (by decide +kernel)
theorem dX4_secondsOf_8 : decode cX4_secondsOf 8 = .ok (.goto 27, 3) := dk_167 (dq_lk dX4_secondsOf_w0 (r := 8) (x := 167) rfl) (dq_lk dX4_secondsOf_w0 (r := 9) (x := 0) rfl) (dq_lk dX4_secondsOf_w0 (r := 10) (x := 27) rfl) (by decide +kernel)
theorem dX4_secondsOf_11 : decode cX4_secondsOf 11 = .ok (.iload_n 0, 1) := dk_26 (dq_lk dX4_secondsOf_w0 (r := 11) (x := 26) rfl)
theorem dX4_secondsOf_12 : decode cX4_secondsOf 12 = .ok (.iconst 5, 1) := dk_8 (dq_lk dX4_secondsOf_w0 (r := 12) (x := 8) rfl)
theorem dX4_secondsOf_13 : decode cX4_secondsOf 13 = .ok (.if_icmp .ne 8, 3) := dk_160 (dq_lk dX4_secondsOf_w0 (r := 13) (x := 160) rfl) (dq_lk dX4_secondsOf_w0 (r := 14) (x := 0) rfl) (dq_lk dX4_secondsOf_w0 (r := 15) (x := 8) rfl) (by decide +kernel)
theorem dX4_secondsOf_16 : decode cX4_secondsOf 16 = .ok (.bipush 60, 2) := dk_16 (dq_lk dX4_secondsOf_w0 (r := 16) (x := 16) rfl) (dq_lk dX4_secondsOf_w0 (r := 17) (x := 60) rfl) (by decide +kernel)
theorem dX4_secondsOf_18 : decode cX4_secondsOf 18 = .ok (.goto 17, 3) := dk_167 (dq_lk dX4_secondsOf_w0 (r := 18) (x := 167) rfl) (dq_lk dX4_secondsOf_w0 (r := 19) (x := 0) rfl) (dq_lk dX4_secondsOf_w0 (r := 20) (x := 17) rfl) (by decide +kernel)
theorem dX4_secondsOf_21 : decode cX4_secondsOf 21 = .ok (.iload_n 0, 1) := dk_26 (dq_lk dX4_secondsOf_w0 (r := 21) (x := 26) rfl)
theorem dX4_secondsOf_22 : decode cX4_secondsOf 22 = .ok (.bipush 6, 2) := dk_16 (dq_lk dX4_secondsOf_w0 (r := 22) (x := 16) rfl) (dq_lk dX4_secondsOf_w0 (r := 23) (x := 6) rfl) (by decide +kernel)
theorem dX4_secondsOf_24 : decode cX4_secondsOf 24 = .ok (.if_icmp .ne 7, 3) := dk_160 (dq_lk dX4_secondsOf_w0 (r := 24) (x := 160) rfl) (dq_lk dX4_secondsOf_w0 (r := 25) (x := 0) rfl) (dq_lk dX4_secondsOf_w0 (r := 26) (x := 7) rfl) (by decide +kernel)
theorem dX4_secondsOf_27 : decode cX4_secondsOf 27 = .ok (.iconst 1, 1) := dk_4 (dq_lk dX4_secondsOf_w0 (r := 27) (x := 4) rfl)
theorem dX4_secondsOf_28 : decode cX4_secondsOf 28 = .ok (.goto 4, 3) := dk_167 (dq_lk dX4_secondsOf_w0 (r := 28) (x := 167) rfl) (dq_lk dX4_secondsOf_w0 (r := 29) (x := 0) rfl) (dq_lk dX4_secondsOf_w0 (r := 30) (x := 4) rfl) (by decide +kernel)
theorem dX4_secondsOf_31 : decode cX4_secondsOf 31 = .ok (.iconst 0, 1) := dk_3 (dq_lk dX4_secondsOf_w0 (r := 31) (x := 3) rfl)
theorem dX4_secondsOf_32 : decode cX4_secondsOf 32 = .ok (.invokestatic 84, 3) := dk_184 (dq_lk dX4_secondsOf_w0 (r := 32) (x := 184) rfl) (dq_lk dX4_secondsOf_w0 (r := 33) (x := 0) rfl) (dq_lk dX4_secondsOf_w0 (r := 34) (x := 84) rfl)
theorem dX4_secondsOf_35 : decode cX4_secondsOf 35 = .ok (.ireturn, 1) := dk_172 (dq_lk dX4_secondsOf_w0 (r := 35) (x := 172) rfl)
theorem dX4_isTime_w0 : (cX4_isTime.data.toList.drop 0).take 64 = [26, 133, 9, 20, 0, 143, 184, 0, 38, 153, 0, 19, 27, 133, 9, 20, 0, 145, 184, 0, 38, 153, 0, 7, 4, 167, 0, 4, 3, 172] := by decide +kernel
theorem dX4_isTime_0 : decode cX4_isTime 0 = .ok (.iload_n 0, 1) := dk_26 (dq_lk dX4_isTime_w0 (r := 0) (x := 26) rfl)
theorem dX4_isTime_1 : decode cX4_isTime 1 = .ok (.i2l, 1) := dk_133 (dq_lk dX4_isTime_w0 (r := 1) (x := 133) rfl)
theorem dX4_isTime_2 : decode cX4_isTime 2 = .ok (.lconst 0, 1) := dk_9 (dq_lk dX4_isTime_w0 (r := 2) (x := 9) rfl)
theorem dX4_isTime_3 : decode cX4_isTime 3 = .ok (.ldc2_w 143, 3) := dk_20 (dq_lk dX4_isTime_w0 (r := 3) (x := 20) rfl) (dq_lk dX4_isTime_w0 (r := 4) (x := 0) rfl) (dq_lk dX4_isTime_w0 (r := 5) (x := 143) rfl)
theorem dX4_isTime_6 : decode cX4_isTime 6 = .ok (.invokestatic 38, 3) := dk_184 (dq_lk dX4_isTime_w0 (r := 6) (x := 184) rfl) (dq_lk dX4_isTime_w0 (r := 7) (x := 0) rfl) (dq_lk dX4_isTime_w0 (r := 8) (x := 38) rfl)
theorem dX4_isTime_9 : decode cX4_isTime 9 = .ok (.ifCond .eq 19, 3) := dk_153 (dq_lk dX4_isTime_w0 (r := 9) (x := 153) rfl) (dq_lk dX4_isTime_w0 (r := 10) (x := 0) rfl) (dq_lk dX4_isTime_w0 (r := 11) (x := 19) rfl) (by decide +kernel)
theorem dX4_isTime_12 : decode cX4_isTime 12 = .ok (.iload_n 1, 1) := dk_27 (dq_lk dX4_isTime_w0 (r := 12) (x := 27) rfl)
theorem dX4_isTime_13 : decode cX4_isTime 13 = .ok (.i2l, 1) := dk_133 (dq_lk dX4_isTime_w0 (r := 13) (x := 133) rfl)
theorem dX4_isTime_14 : decode cX4_isTime 14 = .ok (.lconst 0, 1) := dk_9 (dq_lk dX4_isTime_w0 (r := 14) (x := 9) rfl)
theorem dX4_isTime_15 : decode cX4_isTime 15 = .ok (.ldc2_w 145, 3) := dk_20 (dq_lk dX4_isTime_w0 (r := 15) (x := 20) rfl) (dq_lk dX4_isTime_w0 (r := 16) (x := 0) rfl) (dq_lk dX4_isTime_w0 (r := 17) (x := 145) rfl)
theorem dX4_isTime_18 : decode cX4_isTime 18 = .ok (.invokestatic 38, 3) := dk_184 (dq_lk dX4_isTime_w0 (r := 18) (x := 184) rfl) (dq_lk dX4_isTime_w0 (r := 19) (x := 0) rfl) (dq_lk dX4_isTime_w0 (r := 20) (x := 38) rfl)
theorem dX4_isTime_21 : decode cX4_isTime 21 = .ok (.ifCond .eq 7, 3) := dk_153 (dq_lk dX4_isTime_w0 (r := 21) (x := 153) rfl) (dq_lk dX4_isTime_w0 (r := 22) (x := 0) rfl) (dq_lk dX4_isTime_w0 (r := 23) (x := 7) rfl) (by decide +kernel)
theorem dX4_isTime_24 : decode cX4_isTime 24 = .ok (.iconst 1, 1) := dk_4 (dq_lk dX4_isTime_w0 (r := 24) (x := 4) rfl)
theorem dX4_isTime_25 : decode cX4_isTime 25 = .ok (.goto 4, 3) := dk_167 (dq_lk dX4_isTime_w0 (r := 25) (x := 167) rfl) (dq_lk dX4_isTime_w0 (r := 26) (x := 0) rfl) (dq_lk dX4_isTime_w0 (r := 27) (x := 4) rfl) (by decide +kernel)
theorem dX4_isTime_28 : decode cX4_isTime 28 = .ok (.iconst 0, 1) := dk_3 (dq_lk dX4_isTime_w0 (r := 28) (x := 3) rfl)
theorem dX4_isTime_29 : decode cX4_isTime 29 = .ok (.ireturn, 1) := dk_172 (dq_lk dX4_isTime_w0 (r := 29) (x := 172) rfl)
