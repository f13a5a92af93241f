/-! The class, its contracts (rows by a program of this repository). -/
theorem dJ9_floorDiv_f86c9_w0 : (cJ9_floorDiv_f86c9.data.toList.drop 0).take 64 = [30, 32, 109, 55, 4, 30, 32, 131, 9, 148, 156, 0, 17, 22, 4, 32, 105, 30, 148, 153, 0, 8, 22, 4, 10, 101, 173, 22, 4, 173] := by decide +kernel
theorem dJ9_floorDiv_f86c9_0 : decode cJ9_floorDiv_f86c9 0 = .ok (.lload_n 0, 1) := dk_30 (dq_lk dJ9_floorDiv_f86c9_w0 (r := 0) (x := 30) rfl)
theorem dJ9_floorDiv_f86c9_1 : decode cJ9_floorDiv_f86c9 1 = .ok (.lload_n 2, 1) := dk_32 (dq_lk dJ9_floorDiv_f86c9_w0 (r := 1) (x := 32) rfl)
theorem dJ9_floorDiv_f86c9_2 : decode cJ9_floorDiv_f86c9 2 = .ok (.ldiv, 1) := dk_109 (dq_lk dJ9_floorDiv_f86c9_w0 (r := 2) (x := 109) rfl)
theorem dJ9_floorDiv_f86c9_3 : decode cJ9_floorDiv_f86c9 3 = .ok (.lstore 4, 2) := dk_55 (dq_lk dJ9_floorDiv_f86c9_w0 (r := 3) (x := 55) rfl) (dq_lk dJ9_floorDiv_f86c9_w0 (r := 4) (x := 4) rfl)
theorem dJ9_floorDiv_f86c9_5 : decode cJ9_floorDiv_f86c9 5 = .ok (.lload_n 0, 1) := dk_30 (dq_lk dJ9_floorDiv_f86c9_w0 (r := 5) (x := 30) rfl)
theorem dJ9_floorDiv_f86c9_6 : decode cJ9_floorDiv_f86c9 6 = .ok (.lload_n 2, 1) := dk_32 (dq_lk dJ9_floorDiv_f86c9_w0 (r := 6) (x := 32) rfl)
theorem dJ9_floorDiv_f86c9_7 : decode cJ9_floorDiv_f86c9 7 = .ok (.lxor, 1) := dk_131 (dq_lk dJ9_floorDiv_f86c9_w0 (r := 7) (x := 131) rfl)
theorem dJ9_floorDiv_f86c9_8 : decode cJ9_floorDiv_f86c9 8 = .ok (.lconst 0, 1) := dk_9 (dq_lk dJ9_floorDiv_f86c9_w0 (r := 8) (x := 9) rfl)
theorem dJ9_floorDiv_f86c9_9 : decode cJ9_floorDiv_f86c9 9 = .ok (.lcmp, 1) := dk_148 (dq_lk dJ9_floorDiv_f86c9_w0 (r := 9) (x := 148) rfl)
theorem dJ9_floorDiv_f86c9_10 : decode cJ9_floorDiv_f86c9 10 = .ok (.ifCond .ge 17, 3) := dk_156 (dq_lk dJ9_floorDiv_f86c9_w0 (r := 10) (x := 156) rfl) (dq_lk dJ9_floorDiv_f86c9_w0 (r := 11) (x := 0) rfl) (dq_lk dJ9_floorDiv_f86c9_w0 (r := 12) (x := 17) rfl) (by decide +kernel)
theorem dJ9_floorDiv_f86c9_13 : decode cJ9_floorDiv_f86c9 13 = .ok (.lload 4, 2) := dk_22 (dq_lk dJ9_floorDiv_f86c9_w0 (r := 13) (x := 22) rfl) (dq_lk dJ9_floorDiv_f86c9_w0 (r := 14) (x := 4) rfl)
theorem dJ9_floorDiv_f86c9_15 : decode cJ9_floorDiv_f86c9 15 = .ok (.lload_n 2, 1) := dk_32 (dq_lk dJ9_floorDiv_f86c9_w0 (r := 15) (x := 32) rfl)
theorem dJ9_floorDiv_f86c9_16 : decode cJ9_floorDiv_f86c9 16 = .ok (.lmul, 1) := dk_105 (dq_lk dJ9_floorDiv_f86c9_w0 (r := 16) (x := 105) rfl)
theorem dJ9_floorDiv_f86c9_17 : decode cJ9_floorDiv_f86c9 17 = .ok (.lload_n 0, 1) := dk_30 (dq_lk dJ9_floorDiv_f86c9_w0 (r := 17) (x := 30) rfl)
theorem dJ9_floorDiv_f86c9_18 : decode cJ9_floorDiv_f86c9 18 = .ok (.lcmp, 1) := dk_148 (dq_lk dJ9_floorDiv_f86c9_w0 (r := 18) (x := 148) rfl)
theorem dJ9_floorDiv_f86c9_19 : decode cJ9_floorDiv_f86c9 19 = .ok (.ifCond .eq 8, 3) := dk_153 (dq_lk dJ9_floorDiv_f86c9_w0 (r := 19) (x := 153) rfl) (dq_lk dJ9_floorDiv_f86c9_w0 (r := 20) (x := 0) rfl) (dq_lk dJ9_floorDiv_f86c9_w0 (r := 21) (x := 8) rfl) (by decide +kernel)
theorem dJ9_floorDiv_f86c9_22 : decode cJ9_floorDiv_f86c9 22 = .ok (.lload 4, 2) := dk_22 (dq_lk dJ9_floorDiv_f86c9_w0 (r := 22) (x := 22) rfl) (dq_lk dJ9_floorDiv_f86c9_w0 (r := 23) (x := 4) rfl)
theorem dJ9_floorDiv_f86c9_24 : decode cJ9_floorDiv_f86c9 24 = .ok (.lconst 1, 1) := dk_10 (dq_lk dJ9_floorDiv_f86c9_w0 (r := 24) (x := 10) rfl)
theorem dJ9_floorDiv_f86c9_25 : decode cJ9_floorDiv_f86c9 25 = .ok (.lsub, 1) := dk_101 (dq_lk dJ9_floorDiv_f86c9_w0 (r := 25) (x := 101) rfl)
theorem dJ9_floorDiv_f86c9_26 : decode cJ9_floorDiv_f86c9 26 = .ok (.lreturn, 1) := dk_173 (dq_lk dJ9_floorDiv_f86c9_w0 (r := 26) (x := 173) rfl)
theorem dJ9_floorDiv_f86c9_27 : decode cJ9_floorDiv_f86c9 27 = .ok (.lload 4, 2) := dk_22 (dq_lk dJ9_floorDiv_f86c9_w0 (r := 27) (x := 22) rfl) (dq_lk dJ9_floorDiv_f86c9_w0 (r := 28) (x := 4) rfl)
theorem dJ9_floorDiv_f86c9_29 : decode cJ9_floorDiv_f86c9 29 = .ok (.lreturn, 1) := dk_173 (dq_lk dJ9_floorDiv_f86c9_w0 (r := 29) (x := 173) rfl)
set_option maxHeartbeats 4000000 in
set_option maxRecDepth 20000 in
theorem c_J9_floorDiv_f86c9 (tys : List (ClassId × FieldType)) (ws : va_W) (p0 : Int64) (p1 : Int64) (h0 : ¬ p1 = 0) : mCt tys yJ9_floorDiv_f86c9 cJ9_floorDiv_f86c9 6 (some .long) ⟨0, 0, 0, 0⟩ [.long p0, .long p1] ws (mRl ws) mNo := by
  refine mCt.of (by decide +kernel) (Nat.le_of_ble_eq_true rfl) (fun X hX hE => ?_)
  have hX : mOK X RJ9 cJ9_floorDiv_f86c9 6 ⟨0, 0, 0, 0⟩ [] tys := hX
  refine r_lload_n hX dJ9_floorDiv_f86c9_0 rfl rfl ?_
  refine r_lload_n hX dJ9_floorDiv_f86c9_1 rfl rfl ?_
  refine r_ldiv hX dJ9_floorDiv_f86c9_2 (by first | decide | assumption) ?_
  refine r_lstore hX dJ9_floorDiv_f86c9_3 (by decide) rfl ?_
  refine r_lload_n hX dJ9_floorDiv_f86c9_5 rfl rfl ?_
  refine r_lload_n hX dJ9_floorDiv_f86c9_6 rfl rfl ?_
  refine r_lxor hX dJ9_floorDiv_f86c9_7 ?_
  refine r_lconst (v := 0) hX dJ9_floorDiv_f86c9_8 (by decide) ?_
  refine r_lcmp hX dJ9_floorDiv_f86c9_9 ?_
  refine r_if_ge (tgt := 27) hX dJ9_floorDiv_f86c9_10 (by decide) (fun c1 => ?_) (fun c1 => ?_)
  · refine r_lload hX dJ9_floorDiv_f86c9_27 rfl ?_
    exact r_lret hX hE dJ9_floorDiv_f86c9_29 (Nat.le_of_ble_eq_true rfl) (Nat.le_of_ble_eq_true rfl) ⟨_, rfl, rfl⟩
  · refine r_lload hX dJ9_floorDiv_f86c9_13 rfl ?_
    refine r_lload_n hX dJ9_floorDiv_f86c9_15 rfl rfl ?_
    refine r_lmul hX dJ9_floorDiv_f86c9_16 ?_
    refine r_lload_n hX dJ9_floorDiv_f86c9_17 rfl rfl ?_
    refine r_lcmp hX dJ9_floorDiv_f86c9_18 ?_
    refine r_if_eq (tgt := 27) hX dJ9_floorDiv_f86c9_19 (by decide) (fun c2 => ?_) (fun c2 => ?_)
    · refine r_lload hX dJ9_floorDiv_f86c9_27 rfl ?_
      exact r_lret hX hE dJ9_floorDiv_f86c9_29 (Nat.le_of_ble_eq_true rfl) (Nat.le_of_ble_eq_true rfl) ⟨_, rfl, rfl⟩
    · refine r_lload hX dJ9_floorDiv_f86c9_22 rfl ?_
      refine r_lconst (v := 1) hX dJ9_floorDiv_f86c9_24 (by decide) ?_
      refine r_lsub hX dJ9_floorDiv_f86c9_25 ?_
      exact r_lret hX hE dJ9_floorDiv_f86c9_26 (Nat.le_of_ble_eq_true rfl) (Nat.le_of_ble_eq_true rfl) ⟨_, rfl, rfl⟩
theorem dJ9_floorMod_f86c9_w0 : (cJ9_floorMod_f86c9.data.toList.drop 0).take 64 = [30, 32, 113, 55, 4, 30, 32, 131, 9, 148, 156, 0, 15, 22, 4, 9, 148, 153, 0, 8, 22, 4, 32, 97, 173, 22, 4, 173] := by decide +kernel
theorem dJ9_floorMod_f86c9_0 : decode cJ9_floorMod_f86c9 0 = .ok (.lload_n 0, 1) := dk_30 (dq_lk dJ9_floorMod_f86c9_w0 (r := 0) (x := 30) rfl)
theorem dJ9_floorMod_f86c9_1 : decode cJ9_floorMod_f86c9 1 = .ok (.lload_n 2, 1) := dk_32 (dq_lk dJ9_floorMod_f86c9_w0 (r := 1) (x := 32) rfl)
theorem dJ9_floorMod_f86c9_2 : decode cJ9_floorMod_f86c9 2 = .ok (.lrem, 1) := dk_113 (dq_lk dJ9_floorMod_f86c9_w0 (r := 2) (x := 113) rfl)
theorem dJ9_floorMod_f86c9_3 : decode cJ9_floorMod_f86c9 3 = .ok (.lstore 4, 2) := dk_55 (dq_lk dJ9_floorMod_f86c9_w0 (r := 3) (x := 55) rfl) (dq_lk dJ9_floorMod_f86c9_w0 (r := 4) (x := 4) rfl)
theorem dJ9_floorMod_f86c9_5 : decode cJ9_floorMod_f86c9 5 = .ok (.lload_n 0, 1) := dk_30 (dq_lk dJ9_floorMod_f86c9_w0 (r := 5) (x := 30) rfl)
theorem dJ9_floorMod_f86c9_6 : decode cJ9_floorMod_f86c9 6 = .ok (.lload_n 2, 1) := dk_32 (dq_lk dJ9_floorMod_f86c9_w0 (r := 6) (x := 32) rfl)
theorem dJ9_floorMod_f86c9_7 : decode cJ9_floorMod_f86c9 7 = .ok (.lxor, 1) := dk_131 (dq_lk dJ9_floorMod_f86c9_w0 (r := 7) (x := 131) rfl)
theorem dJ9_floorMod_f86c9_8 : decode cJ9_floorMod_f86c9 8 = .ok (.lconst 0, 1) := dk_9 (dq_lk dJ9_floorMod_f86c9_w0 (r := 8) (x := 9) rfl)
theorem dJ9_floorMod_f86c9_9 : decode cJ9_floorMod_f86c9 9 = .ok (.lcmp, 1) := dk_148 (dq_lk dJ9_floorMod_f86c9_w0 (r := 9) (x := 148) rfl)
theorem dJ9_floorMod_f86c9_10 : decode cJ9_floorMod_f86c9 10 = .ok (.ifCond .ge 15, 3) := dk_156 (dq_lk dJ9_floorMod_f86c9_w0 (r := 10) (x := 156) rfl) (dq_lk dJ9_floorMod_f86c9_w0 (r := 11) (x := 0) rfl) (dq_lk dJ9_floorMod_f86c9_w0 (r := 12) (x := 15) rfl) (by decide +kernel)
theorem dJ9_floorMod_f86c9_13 : decode cJ9_floorMod_f86c9 13 = .ok (.lload 4, 2) := dk_22 (dq_lk dJ9_floorMod_f86c9_w0 (r := 13) (x := 22) rfl) (dq_lk dJ9_floorMod_f86c9_w0 (r := 14) (x := 4) rfl)
theorem dJ9_floorMod_f86c9_15 : decode cJ9_floorMod_f86c9 15 = .ok (.lconst 0, 1) := dk_9 (dq_lk dJ9_floorMod_f86c9_w0 (r := 15) (x := 9) rfl)
theorem dJ9_floorMod_f86c9_16 : decode cJ9_floorMod_f86c9 16 = .ok (.lcmp, 1) := dk_148 (dq_lk dJ9_floorMod_f86c9_w0 (r := 16) (x := 148) rfl)
theorem dJ9_floorMod_f86c9_17 : decode cJ9_floorMod_f86c9 17 = .ok (.ifCond .eq 8, 3) := dk_153 (dq_lk dJ9_floorMod_f86c9_w0 (r := 17) (x := 153) rfl) (dq_lk dJ9_floorMod_f86c9_w0 (r := 18) (x := 0) rfl) (dq_lk dJ9_floorMod_f86c9_w0 (r := 19) (x := 8) rfl) (by decide +kernel)
theorem dJ9_floorMod_f86c9_20 : decode cJ9_floorMod_f86c9 20 = .ok (.lload 4, 2) := dk_22 (dq_lk dJ9_floorMod_f86c9_w0 (r := 20) (x := 22) rfl) (dq_lk dJ9_floorMod_f86c9_w0 (r := 21) (x := 4) rfl)
theorem dJ9_floorMod_f86c9_22 : decode cJ9_floorMod_f86c9 22 = .ok (.lload_n 2, 1) := dk_32 (dq_lk dJ9_floorMod_f86c9_w0 (r := 22) (x := 32) rfl)
theorem dJ9_floorMod_f86c9_23 : decode cJ9_floorMod_f86c9 23 = .ok (.ladd, 1) := dk_97 (dq_lk dJ9_floorMod_f86c9_w0 (r := 23) (x := 97) rfl)
theorem dJ9_floorMod_f86c9_24 : decode cJ9_floorMod_f86c9 24 = .ok (.lreturn, 1) := dk_173 (dq_lk dJ9_floorMod_f86c9_w0 (r := 24) (x := 173) rfl)
theorem dJ9_floorMod_f86c9_25 : decode cJ9_floorMod_f86c9 25 = .ok (.lload 4, 2) := dk_22 (dq_lk dJ9_floorMod_f86c9_w0 (r := 25) (x := 22) rfl) (dq_lk dJ9_floorMod_f86c9_w0 (r := 26) (x := 4) rfl)
theorem dJ9_floorMod_f86c9_27 : decode cJ9_floorMod_f86c9 27 = .ok (.lreturn, 1) := dk_173 (dq_lk dJ9_floorMod_f86c9_w0 (r := 27) (x := 173) rfl)
theorem dJ9_floorMod_7cf53_w0 : (cJ9_floorMod_7cf53.data.toList.drop 0).take 64 = [26, 27, 112, 61, 26, 27, 130, 156, 0, 11, 28, 153, 0, 7, 28, 27, 96, 172, 28, 172] := by decide +kernel
theorem dJ9_floorMod_7cf53_0 : decode cJ9_floorMod_7cf53 0 = .ok (.iload_n 0, 1) := dk_26 (dq_lk dJ9_floorMod_7cf53_w0 (r := 0) (x := 26) rfl)
theorem dJ9_floorMod_7cf53_1 : decode cJ9_floorMod_7cf53 1 = .ok (.iload_n 1, 1) := dk_27 (dq_lk dJ9_floorMod_7cf53_w0 (r := 1) (x := 27) rfl)
theorem dJ9_floorMod_7cf53_2 : decode cJ9_floorMod_7cf53 2 = .ok (.irem, 1) := dk_112 (dq_lk dJ9_floorMod_7cf53_w0 (r := 2) (x := 112) rfl)
theorem dJ9_floorMod_7cf53_3 : decode cJ9_floorMod_7cf53 3 = .ok (.istore_n 2, 1) := dk_61 (dq_lk dJ9_floorMod_7cf53_w0 (r := 3) (x := 61) rfl)
theorem dJ9_floorMod_7cf53_4 : decode cJ9_floorMod_7cf53 4 = .ok (.iload_n 0, 1) := dk_26 (dq_lk dJ9_floorMod_7cf53_w0 (r := 4) (x := 26) rfl)
theorem dJ9_floorMod_7cf53_5 : decode cJ9_floorMod_7cf53 5 = .ok (.iload_n 1, 1) := dk_27 (dq_lk dJ9_floorMod_7cf53_w0 (r := 5) (x := 27) rfl)
theorem dJ9_floorMod_7cf53_6 : decode cJ9_floorMod_7cf53 6 = .ok (.ixor, 1) := dk_130 (dq_lk dJ9_floorMod_7cf53_w0 (r := 6) (x := 130) rfl)
theorem dJ9_floorMod_7cf53_7 : decode cJ9_floorMod_7cf53 7 = .ok (.ifCond .ge 11, 3) := dk_156 (dq_lk dJ9_floorMod_7cf53_w0 (r := 7) (x := 156) rfl) (dq_lk dJ9_floorMod_7cf53_w0 (r := 8) (x := 0) rfl) (dq_lk dJ9_floorMod_7cf53_w0 (r := 9) (x := 11) rfl) (by decide +kernel)
theorem dJ9_floorMod_7cf53_10 : decode cJ9_floorMod_7cf53 10 = .ok (.iload_n 2, 1) := dk_28 (dq_lk dJ9_floorMod_7cf53_w0 (r := 10) (x := 28) rfl)
theorem dJ9_floorMod_7cf53_11 : decode cJ9_floorMod_7cf53 11 = .ok (.ifCond .eq 7, 3) := dk_153 (dq_lk dJ9_floorMod_7cf53_w0 (r := 11) (x := 153) rfl) (dq_lk dJ9_floorMod_7cf53_w0 (r := 12) (x := 0) rfl) (dq_lk dJ9_floorMod_7cf53_w0 (r := 13) (x := 7) rfl) (by decide +kernel)
theorem dJ9_floorMod_7cf53_14 : decode cJ9_floorMod_7cf53 14 = .ok (.iload_n 2, 1) := dk_28 (dq_lk dJ9_floorMod_7cf53_w0 (r := 14) (x := 28) rfl)
theorem dJ9_floorMod_7cf53_15 : decode cJ9_floorMod_7cf53 15 = .ok (.iload_n 1, 1) := dk_27 (dq_lk dJ9_floorMod_7cf53_w0 (r := 15) (x := 27) rfl)
theorem dJ9_floorMod_7cf53_16 : decode cJ9_floorMod_7cf53 16 = .ok (.iadd, 1) := dk_96 (dq_lk dJ9_floorMod_7cf53_w0 (r := 16) (x := 96) rfl)
theorem dJ9_floorMod_7cf53_17 : decode cJ9_floorMod_7cf53 17 = .ok (.ireturn, 1) := dk_172 (dq_lk dJ9_floorMod_7cf53_w0 (r := 17) (x := 172) rfl)
theorem dJ9_floorMod_7cf53_18 : decode cJ9_floorMod_7cf53 18 = .ok (.iload_n 2, 1) := dk_28 (dq_lk dJ9_floorMod_7cf53_w0 (r := 18) (x := 28) rfl)
theorem dJ9_floorMod_7cf53_19 : decode cJ9_floorMod_7cf53 19 = .ok (.ireturn, 1) := dk_172 (dq_lk dJ9_floorMod_7cf53_w0 (r := 19) (x := 172) rfl)
theorem dJ9_min_7cf53_w0 : (cJ9_min_7cf53.data.toList.drop 0).take 64 = [26, 27, 163, 0, 7, 26, 167, 0, 4, 27, 172] := by decide +kernel
theorem dJ9_min_7cf53_0 : decode cJ9_min_7cf53 0 = .ok (.iload_n 0, 1) := dk_26 (dq_lk dJ9_min_7cf53_w0 (r := 0) (x := 26) rfl)
theorem dJ9_min_7cf53_1 : decode cJ9_min_7cf53 1 = .ok (.iload_n 1, 1) := dk_27 (dq_lk dJ9_min_7cf53_w0 (r := 1) (x := 27) rfl)
theorem dJ9_min_7cf53_2 : decode cJ9_min_7cf53 2 = .ok (.if_icmp .gt 7, 3) := dk_163 (dq_lk dJ9_min_7cf53_w0 (r := 2) (x := 163) rfl) (dq_lk dJ9_min_7cf53_w0 (r := 3) (x := 0) rfl) (dq_lk dJ9_min_7cf53_w0 (r := 4) (x := 7) rfl) (by decide +kernel)
theorem dJ9_min_7cf53_5 : decode cJ9_min_7cf53 5 = .ok (.iload_n 0, 1) := dk_26 (dq_lk dJ9_min_7cf53_w0 (r := 5) (x := 26) rfl)
theorem dJ9_min_7cf53_6 : decode cJ9_min_7cf53 6 = .ok (.goto 4, 3) := dk_167 (dq_lk dJ9_min_7cf53_w0 (r := 6) (x := 167) rfl) (dq_lk dJ9_min_7cf53_w0 (r := 7) (x := 0) rfl) (dq_lk dJ9_min_7cf53_w0 (r := 8) (x := 4) rfl) (by decide +kernel)
theorem dJ9_min_7cf53_9 : decode cJ9_min_7cf53 9 = .ok (.iload_n 1, 1) := dk_27 (dq_lk dJ9_min_7cf53_w0 (r := 9) (x := 27) rfl)
theorem dJ9_min_7cf53_10 : decode cJ9_min_7cf53 10 = .ok (.ireturn, 1) := dk_172 (dq_lk dJ9_min_7cf53_w0 (r := 10) (x := 172) rfl)
theorem dX2_isWithin_w0 : (cX2_isWithin.data.toList.drop 0).take 64 = [30, 32, 148, 155, 0, 14, 30, 22, 4, 148, 157, 0, 7, 4, 167, 0, 4, 3, 172] := by decide +kernel
theorem dX2_isWithin_0 : decode cX2_isWithin 0 = .ok (.lload_n 0, 1) := dk_30 (dq_lk dX2_isWithin_w0 (r := 0) (x := 30) rfl)
theorem dX2_isWithin_1 : decode cX2_isWithin 1 = .ok (.lload_n 2, 1) := dk_32 (dq_lk dX2_isWithin_w0 (r := 1) (x := 32) rfl)
theorem dX2_isWithin_2 : decode cX2_isWithin 2 = .ok (.lcmp, 1) := dk_148 (dq_lk dX2_isWithin_w0 (r := 2) (x := 148) rfl)
theorem dX2_isWithin_3 : decode cX2_isWithin 3 = .ok (.ifCond .lt 14, 3) := dk_155 (dq_lk dX2_isWithin_w0 (r := 3) (x := 155) rfl) (dq_lk dX2_isWithin_w0 (r := 4) (x := 0) rfl) (dq_lk dX2_isWithin_w0 (r := 5) (x := 14) rfl) (by decide +kernel)
theorem dX2_isWithin_6 : decode cX2_isWithin 6 = .ok (.lload_n 0, 1) := dk_30 (dq_lk dX2_isWithin_w0 (r := 6) (x := 30) rfl)
theorem dX2_isWithin_7 : decode cX2_isWithin 7 = .ok (.lload 4, 2) := dk_22 (dq_lk dX2_isWithin_w0 (r := 7) (x := 22) rfl) (dq_lk dX2_isWithin_w0 (r := 8) (x := 4) rfl)
theorem dX2_isWithin_9 : decode cX2_isWithin 9 = .ok (.lcmp, 1) := dk_148 (dq_lk dX2_isWithin_w0 (r := 9) (x := 148) rfl)
theorem dX2_isWithin_10 : decode cX2_isWithin 10 = .ok (.ifCond .gt 7, 3) := dk_157 (dq_lk dX2_isWithin_w0 (r := 10) (x := 157) rfl) (dq_lk dX2_isWithin_w0 (r := 11) (x := 0) rfl) (dq_lk dX2_isWithin_w0 (r := 12) (x := 7) rfl) (by decide +kernel)
theorem dX2_isWithin_13 : decode cX2_isWithin 13 = .ok (.iconst 1, 1) := dk_4 (dq_lk dX2_isWithin_w0 (r := 13) (x := 4) rfl)
theorem dX2_isWithin_14 : decode cX2_isWithin 14 = .ok (.goto 4, 3) := dk_167 (dq_lk dX2_isWithin_w0 (r := 14) (x := 167) rfl) (dq_lk dX2_isWithin_w0 (r := 15) (x := 0) rfl) (dq_lk dX2_isWithin_w0 (r := 16) (x := 4) rfl) (by decide +kernel)
theorem dX2_isWithin_17 : decode cX2_isWithin 17 = .ok (.iconst 0, 1) := dk_3 (dq_lk dX2_isWithin_w0 (r := 17) (x := 3) rfl)
theorem dX2_isWithin_18 : decode cX2_isWithin 18 = .ok (.ireturn, 1) := dk_172 (dq_lk dX2_isWithin_w0 (r := 18) (x := 172) rfl)
theorem lg_lt {x y : Int64} : lg_cmp x y < 0 ↔ x < y := by
  unfold lg_cmp
  by_cases h1 : y < x
  · have h2 : ¬ x < y := Int64.lt_asymm h1
    simp [h1, h2]
  · by_cases h2 : x = y
    · subst h2
      simp [h1]
    · have h3 : x < y := by
        rcases Int64.lt_or_le x y with h | h
        · exact h
        · exact absurd (Int64.le_antisymm (Int64.not_lt.mp h1) h) h2
      simp [h1, h2, h3]
theorem lg_gt {x y : Int64} : 0 < lg_cmp x y ↔ y < x := by
  unfold lg_cmp
  by_cases h1 : y < x
  · simp [h1]
  · by_cases h2 : x = y
    · simp [h2]
    · simp [h1, h2]
def f_isWithin (x a b : Int64) : Int32 := if a ≤ x ∧ x ≤ b then 1 else 0
theorem c_X2_isWithin (tys : List (ClassId × FieldType)) (ws : va_W) (p0 p1 p2 : Int64) : mCt tys yX2_isWithin cX2_isWithin 6 (some .boolean) ⟨0, 0, 0, 0⟩ [.long p0, .long p1, .long p2] ws (fun v ws' => v = some (.int (f_isWithin p0 p1 p2)) ∧ ws' = ws) mNo := by
  refine mCt.of (by decide +kernel) (Nat.le_of_ble_eq_true rfl) (fun X hX hE => ?_)
  have hX : mOK X RX2 cX2_isWithin 6 ⟨0, 0, 0, 0⟩ [] tys := hX
  refine r_lload_n hX dX2_isWithin_0 rfl rfl ?_
  refine r_lload_n hX dX2_isWithin_1 rfl rfl ?_
  refine r_lcmp hX dX2_isWithin_2 ?_
  refine r_if_lt (tgt := 17) hX dX2_isWithin_3 (by decide) (fun c1 => ?_) (fun c1 => ?_)
  · refine r_iconst (v := 0) hX dX2_isWithin_17 (by decide) ?_
    refine r_zret hX hE dX2_isWithin_18 (by decide) (Nat.le_of_ble_eq_true rfl) (Nat.le_of_ble_eq_true rfl) ⟨?_, rfl⟩
    have h1 : ¬ p1 ≤ p0 := Int64.not_le.mpr (lg_lt.mp c1)
    simp [f_isWithin, h1]
  · have h1 : p1 ≤ p0 := Int64.not_lt.mp (fun h => c1 (lg_lt.mpr h))
    refine r_lload_n hX dX2_isWithin_6 rfl rfl ?_
    refine r_lload hX dX2_isWithin_7 rfl ?_
    refine r_lcmp hX dX2_isWithin_9 ?_
    refine r_if_gt (tgt := 17) hX dX2_isWithin_10 (by decide) (fun c2 => ?_) (fun c2 => ?_)
    · refine r_iconst (v := 0) hX dX2_isWithin_17 (by decide) ?_
      refine r_zret hX hE dX2_isWithin_18 (by decide) (Nat.le_of_ble_eq_true rfl) (Nat.le_of_ble_eq_true rfl) ⟨?_, rfl⟩
      have h2 : ¬ p0 ≤ p2 := Int64.not_le.mpr (lg_gt.mp c2)
      simp [f_isWithin, h2]
    · have h2 : p0 ≤ p2 := Int64.not_lt.mp (fun h => c2 (lg_gt.mpr h))
      refine r_iconst (v := 1) hX dX2_isWithin_13 (by decide) ?_
      refine r_goto (tgt := 18) hX dX2_isWithin_14 (by decide) ?_
      refine r_zret hX hE dX2_isWithin_18 (by decide) (Nat.le_of_ble_eq_true rfl) (Nat.le_of_ble_eq_true rfl) ⟨?_, rfl⟩
      simp [f_isWithin, h1, h2]
theorem dX2_requireOne_w0 : (cX2_requireOne.data.toList.drop 0).take 64 = [26, 155, 0, 8, 26, 27, 161, 0, 13, 187, 0, 250, 89, 18, 252, 183, 0, 254, 191, 177] := by decide +kernel
theorem dX2_requireOne_0 : decode cX2_requireOne 0 = .ok (.iload_n 0, 1) := dk_26 (dq_lk dX2_requireOne_w0 (r := 0) (x := 26) rfl)
theorem dX2_requireOne_1 : decode cX2_requireOne 1 = .ok (.ifCond .lt 8, 3) := dk_155 (dq_lk dX2_requireOne_w0 (r := 1) (x := 155) rfl) (dq_lk dX2_requireOne_w0 (r := 2) (x := 0) rfl) (dq_lk dX2_requireOne_w0 (r := 3) (x := 8) rfl) (by decide +kernel)
theorem dX2_requireOne_4 : decode cX2_requireOne 4 = .ok (.iload_n 0, 1) := dk_26 (dq_lk dX2_requireOne_w0 (r := 4) (x := 26) rfl)
theorem dX2_requireOne_5 : decode cX2_requireOne 5 = .ok (.iload_n 1, 1) := dk_27 (dq_lk dX2_requireOne_w0 (r := 5) (x := 27) rfl)
theorem dX2_requireOne_6 : decode cX2_requireOne 6 = .ok (.if_icmp .lt 13, 3) := dk_161 (dq_lk dX2_requireOne_w0 (r := 6) (x := 161) rfl) (dq_lk dX2_requireOne_w0 (r := 7) (x := 0) rfl) (dq_lk dX2_requireOne_w0 (r := 8) (x := 13) rfl) (by decide +kernel)
theorem dX2_requireOne_9 : decode cX2_requireOne 9 = .ok (.new 250, 3) := dk_187 (dq_lk dX2_requireOne_w0 (r := 9) (x := 187) rfl) (dq_lk dX2_requireOne_w0 (r := 10) (x := 0) rfl) (dq_lk dX2_requireOne_w0 (r := 11) (x := 250) rfl)
theorem dX2_requireOne_12 : decode cX2_requireOne 12 = .ok (.dup, 1) := dk_89 (dq_lk dX2_requireOne_w0 (r := 12) (x := 89) rfl)
theorem dX2_requireOne_13 : decode cX2_requireOne 13 = .ok (.ldc 252, 2) := dk_18 (dq_lk dX2_requireOne_w0 (r := 13) (x := 18) rfl) (dq_lk dX2_requireOne_w0 (r := 14) (x := 252) rfl)
theorem dX2_requireOne_15 : decode cX2_requireOne 15 = .ok (.invokespecial 254, 3) := dk_183 (dq_lk dX2_requireOne_w0 (r := 15) (x := 183) rfl) (dq_lk dX2_requireOne_w0 (r := 16) (x := 0) rfl) (dq_lk dX2_requireOne_w0 (r := 17) (x := 254) rfl)
theorem dX2_requireOne_18 : decode cX2_requireOne 18 = .ok (.athrow, 1) := dk_191 (dq_lk dX2_requireOne_w0 (r := 18) (x := 191) rfl)
theorem dX2_requireOne_19 : decode cX2_requireOne 19 = .ok (.return_, 1) := dk_177 (dq_lk dX2_requireOne_w0 (r := 19) (x := 177) rfl)
theorem kat_one : ∀ w ∈ vx_atS RX2 254 xI ["java/lang/RuntimeException", "java/lang/Exception"], w ∈ mW := by decide +kernel
theorem kgd_one : ∀ w ∈ Cond.classLink RX2 250 xI :: Cond.initialized xI :: vx_atS RX2 254 xI ["java/lang/RuntimeException", "java/lang/Exception"], vx_ot w = true := by decide +kernel
theorem kat_wit : ∀ w ∈ vx_atS RX2 261 xA ["java/lang/RuntimeException", "java/lang/Exception"], w ∈ mW := by decide +kernel
theorem kgd_wit : ∀ w ∈ Cond.classLink RX2 257 xA :: Cond.initialized xA :: vx_atS RX2 261 xA ["java/lang/RuntimeException", "java/lang/Exception"], vx_ot w = true := by decide +kernel
theorem c_X2_requireOne (tys : List (ClassId × FieldType)) (ws : va_W) (p0 : Int32) (N : Nat) (hN : N < 2 ^ 31) : mCt tys yX2_requireOne cX2_requireOne 2 none ⟨6, 1, 6, 82⟩ [.int p0, .int (nI N)] ws (fun v ws' => ∃ j, j < N ∧ p0 = nI j ∧ v = none ∧ ws' = ws) (fun E ws' => E = xI ∧ ws' = ws ∧ ¬ vp_in p0 N) := by
  refine mCt.of (by decide +kernel) (Nat.le_of_ble_eq_true rfl) (fun X hX hE => ?_)
  have hX : mOK X RX2 cX2_requireOne 2 ⟨6, 1, 6, 82⟩ [] tys := hX
  have thr : ∀ lv, ¬ vp_in p0 N → mV X 9 lv [] ws 0 0 := fun lv hn =>
    r_throw (cls := xI) (text := "there is no such one") (names := ["java/lang/RuntimeException", "java/lang/Exception"]) hX hE (by decide +kernel) (by decide +kernel) kl_X2_250 kt_java_lang_IndexOutOfBoundsException kat_one kgd_one (fun A U h => h.1) dX2_requireOne_9 dX2_requireOne_12 dX2_requireOne_13 dX2_requireOne_15 dX2_requireOne_18 (by decide) (by decide) (by decide) (by decide) (by decide) (by decide) ⟨rfl, rfl, hn⟩
  refine r_iload_n hX dX2_requireOne_0 rfl rfl ?_
  refine r_if_lt (tgt := 9) hX dX2_requireOne_1 (by decide) (fun c1 => ?_) (fun c1 => ?_)
  · exact thr _ (fun h => h (Or.inl c1))
  · refine r_iload_n hX dX2_requireOne_4 rfl rfl ?_
    refine r_iload_n hX dX2_requireOne_5 rfl rfl ?_
    obtain ⟨j, hj, rfl⟩ := nI_of c1
    refine r_icmp_lt (tgt := 19) hX dX2_requireOne_6 (by decide) (fun c2 => ?_) (fun c2 => ?_)
    · have hjN : j < N := (nI_ltI hj hN).mp c2
      exact r_vret hX hE dX2_requireOne_19 (Nat.le_of_ble_eq_true rfl) (Nat.le_of_ble_eq_true rfl) ⟨j, hjN, rfl, rfl, rfl⟩
    · exact thr _ (fun h => by
        have h2 := (vp_in_iff.mp h).2
        rw [nI_toInt hj] at h2
        exact c2 ((nI_ltI hj hN).mpr (by omega)))
theorem c_X2_requireOne_ok (tys : List (ClassId × FieldType)) (ws : va_W) (N : Nat) (hN : N < 2 ^ 31) (j : Nat) (hj : j < N) : mCt tys yX2_requireOne cX2_requireOne 2 none ⟨0, 0, 0, 0⟩ [.int (nI j), .int (nI N)] ws (fun v ws' => v = none ∧ ws' = ws) mNo := by
  refine mCt.of (by decide +kernel) (Nat.le_of_ble_eq_true rfl) (fun X hX hE => ?_)
  have hX : mOK X RX2 cX2_requireOne 2 ⟨0, 0, 0, 0⟩ [] tys := hX
  have hj2 : j < 2 ^ 31 := by omega
  refine r_iload_n hX dX2_requireOne_0 rfl rfl ?_
  refine r_if_lt (tgt := 9) hX dX2_requireOne_1 (by decide) (fun c1 => absurd c1 (nI_pos hj2)) (fun c1 => ?_)
  refine r_iload_n hX dX2_requireOne_4 rfl rfl ?_
  refine r_iload_n hX dX2_requireOne_5 rfl rfl ?_
  refine r_icmp_lt (tgt := 19) hX dX2_requireOne_6 (by decide) (fun c2 => ?_) (fun c2 => absurd ((nI_ltI hj2 hN).mpr hj) c2)
  exact r_vret hX hE dX2_requireOne_19 (Nat.le_of_ble_eq_true rfl) (Nat.le_of_ble_eq_true rfl) ⟨rfl, rfl⟩
theorem dX2_requireWithin_w0 : (cX2_requireWithin.data.toList.drop 0).take 64 = [26, 133, 27, 133, 28, 133, 184, 0, 48, 154, 0, 14, 187, 1, 1, 89, 19, 1, 3, 183, 1, 5, 191, 177] := by decide +kernel
theorem dX2_requireWithin_0 : decode cX2_requireWithin 0 = .ok (.iload_n 0, 1) := dk_26 (dq_lk dX2_requireWithin_w0 (r := 0) (x := 26) rfl)
theorem dX2_requireWithin_1 : decode cX2_requireWithin 1 = .ok (.i2l, 1) := dk_133 (dq_lk dX2_requireWithin_w0 (r := 1) (x := 133) rfl)
theorem dX2_requireWithin_2 : decode cX2_requireWithin 2 = .ok (.iload_n 1, 1) := dk_27 (dq_lk dX2_requireWithin_w0 (r := 2) (x := 27) rfl)
theorem dX2_requireWithin_3 : decode cX2_requireWithin 3 = .ok (.i2l, 1) := dk_133 (dq_lk dX2_requireWithin_w0 (r := 3) (x := 133) rfl)
theorem dX2_requireWithin_4 : decode cX2_requireWithin 4 = .ok (.iload_n 2, 1) := dk_28 (dq_lk dX2_requireWithin_w0 (r := 4) (x := 28) rfl)
theorem dX2_requireWithin_5 : decode cX2_requireWithin 5 = .ok (.i2l, 1) := dk_133 (dq_lk dX2_requireWithin_w0 (r := 5) (x := 133) rfl)
theorem dX2_requireWithin_6 : decode cX2_requireWithin 6 = .ok (.invokestatic 48, 3) := dk_184 (dq_lk dX2_requireWithin_w0 (r := 6) (x := 184) rfl) (dq_lk dX2_requireWithin_w0 (r := 7) (x := 0) rfl) (dq_lk dX2_requireWithin_w0 (r := 8) (x := 48) rfl)
theorem dX2_requireWithin_9 : decode cX2_requireWithin 9 = .ok (.ifCond .ne 14, 3) := dk_154 (dq_lk dX2_requireWithin_w0 (r := 9) (x := 154) rfl) (dq_lk dX2_requireWithin_w0 (r := 10) (x := 0) rfl) (dq_lk dX2_requireWithin_w0 (r := 11) (x := 14) rfl) (by decide +kernel)
theorem dX2_requireWithin_12 : decode cX2_requireWithin 12 = .ok (.new 257, 3) := dk_187 (dq_lk dX2_requireWithin_w0 (r := 12) (x := 187) rfl) (dq_lk dX2_requireWithin_w0 (r := 13) (x := 1) rfl) (dq_lk dX2_requireWithin_w0 (r := 14) (x := 1) rfl)
theorem dX2_requireWithin_15 : decode cX2_requireWithin 15 = .ok (.dup, 1) := dk_89 (dq_lk dX2_requireWithin_w0 (r := 15) (x := 89) rfl)
theorem dX2_requireWithin_16 : decode cX2_requireWithin 16 = .ok (.ldc_w 259, 3) := dk_19 (dq_lk dX2_requireWithin_w0 (r := 16) (x := 19) rfl) (dq_lk dX2_requireWithin_w0 (r := 17) (x := 1) rfl) (dq_lk dX2_requireWithin_w0 (r := 18) (x := 3) rfl)
theorem dX2_requireWithin_19 : decode cX2_requireWithin 19 = .ok (.invokespecial 261, 3) := dk_183 (dq_lk dX2_requireWithin_w0 (r := 19) (x := 183) rfl) (dq_lk dX2_requireWithin_w0 (r := 20) (x := 1) rfl) (dq_lk dX2_requireWithin_w0 (r := 21) (x := 5) rfl)
theorem dX2_requireWithin_22 : decode cX2_requireWithin 22 = .ok (.athrow, 1) := dk_191 (dq_lk dX2_requireWithin_w0 (r := 22) (x := 191) rfl)
theorem dX2_requireWithin_23 : decode cX2_requireWithin 23 = .ok (.return_, 1) := dk_177 (dq_lk dX2_requireWithin_w0 (r := 23) (x := 177) rfl)
section MWT
variable {X : mC} {own : String} {cc : ByteArray} {nL : Nat} {R : Room} {tys : List (ClassId × FieldType)} {pc : Nat} {lv : List (Nat × Option Value)} {st : List Value} {ws : va_W} {k n : Nat} {Φ : Option Value → va_W → Prop} {Ψ : String → va_W → Prop} {mc ms : Nat} {ret : Option FieldType}
theorem r_throwW {cls text : String} {names : List String} {ik is ic : Nat} (hX : mOK X own cc nL R [] tys) (hE : mE X Φ Ψ ret mc ms) (hcls : Bundle.fit cls = true) (hnames : ∀ n ∈ names, Bundle.fit n = true) (hk0 : Cond.classLink own ik cls ∈ mW) (hini : Cond.initialized cls ∈ mW) (hat : ∀ w ∈ vx_atS own ic cls names, w ∈ mW)
    (hgood : ∀ w ∈ Cond.classLink own ik cls :: Cond.initialized cls :: vx_atS own ic cls names, vx_ot w = true) (hstr : ∀ (A : Nat → Prop) (U : State), mst A U → ∃ a, vk_R own is text a U)
    (d0 : decode cc pc = .ok (.new ik, 3)) (d3 : decode cc (pc + 3) = .ok (.dup, 1)) (d4 : decode cc (pc + 4) = .ok (.ldc_w is, 3)) (d7 : decode cc (pc + 7) = .ok (.invokespecial ic, 3)) (d10 : decode cc (pc + 10) = .ok (.athrow, 1))
    (hf : names.length + 3 < R.frames) (hlo : (st.map fun v => v.category).sum + (13 * (names.length + 1) + 43) ≤ R.locals) (hRc : k + 1 ≤ R.cells) (hRs : n + 6 ≤ R.slots) (hk : k + 1 ≤ mc) (hn : n + 6 ≤ ms) (hΨ : Ψ cls ws) : mV X pc lv st ws k n := by
  obtain ⟨p, l, e, R', s, m, args, below, meth, c, Q, D, tys', A⟩ := X
  obtain ⟨hx, hb, hml, hR, hown, hts, hK, hty, hlk, hA, hst, hlt, htab⟩ := hX
  obtain ⟨hr, rfl⟩ := hE
  subst hR
  obtain ⟨sa, hsa⟩ := hstr A s hst
  refine fun H locs ls hP hD hS hl => vx_throwSW hx hb hlt (A := A) hown hcls hnames (hts _ hk0) (hts _ hini) hsa (fun w hw => hts w (hat w hw)) hgood hst.2.2.1 hst.2.2.2.1 hS hl.1 d0 d3 d4 d7 d10 (by rw [htab]; exact fun x h => nomatch h) hf hlo hRc hRs hlk (fun t _ hz hq => ⟨ws, hΨ, fun i q h => ?_, hD, ?_⟩) hS.2.2 hk hn
  · exact (hP i q h).kept (hq q.1 (hP i q h).lt)
  · exact ⟨Nat.le_trans hS.1 hz, fun q h1 h2 => (hq q (Nat.lt_of_lt_of_le h1 hS.1)).trans (hS.2.1 q h1 h2)⟩
end MWT
theorem i2l_le {x y : Int32} : x.toInt64 ≤ y.toInt64 ↔ x ≤ y := by
  rw [Int64.le_iff_toInt_le, Int32.le_iff_toInt_le, Int32.toInt_toInt64, Int32.toInt_toInt64]
theorem c_X2_requireWithin (tys : List (ClassId × FieldType)) (ws : va_W) (p0 p1 p2 : Int32) : mCt tys yX2_requireWithin cX2_requireWithin 3 none ⟨6, 1, 6, 82⟩ [.int p0, .int p1, .int p2] ws (fun v ws' => (p1 ≤ p0 ∧ p0 ≤ p2) ∧ v = none ∧ ws' = ws) (fun E ws' => E = xA ∧ ws' = ws ∧ ¬ (p1 ≤ p0 ∧ p0 ≤ p2)) := by
  refine mCt.of (by decide +kernel) (Nat.le_of_ble_eq_true rfl) (fun X hX hE => ?_)
  have hX : mOK X RX2 cX2_requireWithin 3 ⟨6, 1, 6, 82⟩ [] tys := hX
  refine r_iload_n hX dX2_requireWithin_0 rfl rfl ?_
  refine r_i2l hX dX2_requireWithin_1 ?_
  refine r_iload_n hX dX2_requireWithin_2 rfl rfl ?_
  refine r_i2l hX dX2_requireWithin_3 ?_
  refine r_iload_n hX dX2_requireWithin_4 rfl rfl ?_
  refine r_i2l hX dX2_requireWithin_5 ?_
  refine r_callS hX (c_X2_isWithin _ _ _ _ _) ks_X2_48 rfl rfl (Nat.le_of_ble_eq_true rfl) ⟨(Nat.le_of_ble_eq_true rfl), (Nat.le_of_ble_eq_true rfl)⟩ ⟨(Nat.le_of_ble_eq_true rfl), (Nat.le_of_ble_eq_true rfl)⟩ dX2_requireWithin_6 (fun _ _ z => False.elim z) (fun v9 ws9 h1 => ?_)
  obtain ⟨rfl, hw9⟩ := h1
  subst ws9
  dsimp only [mPush]
  refine r_if_ne (tgt := 23) hX dX2_requireWithin_9 (by decide) (fun c1 => ?_) (fun c1 => ?_)
  · refine r_vret hX hE dX2_requireWithin_23 (Nat.le_of_ble_eq_true rfl) (Nat.le_of_ble_eq_true rfl) ⟨?_, rfl, rfl⟩
    simp only [f_isWithin, i2l_le] at c1
    by_cases h : p1 ≤ p0 ∧ p0 ≤ p2
    · exact h
    · exact absurd (if_neg h) c1
  · refine r_throwW (cls := xA) (text := "a number is not within its limits") (names := ["java/lang/RuntimeException", "java/lang/Exception"]) hX hE (by decide +kernel) (by decide +kernel) kl_X2_257 kt_java_lang_IllegalArgumentException kat_wit kgd_wit (fun A U h => h.2.1) dX2_requireWithin_12 dX2_requireWithin_15 dX2_requireWithin_16 dX2_requireWithin_19 dX2_requireWithin_22 (by decide) (by decide) (by decide) (by decide) (by decide) (by decide) ⟨rfl, rfl, fun h => c1 ?_⟩
    simp only [f_isWithin, i2l_le]
    rw [if_pos h]
    decide
theorem dX2_at_w0 : (cX2_at.data.toList.drop 0).take 64 = [27, 155, 0, 15, 27, 42, 190, 162, 0, 9, 42, 27, 50, 199, 0, 13, 187, 0, 250, 89, 18, 252, 183, 0, 254, 191, 42, 27, 50, 176] := by decide +kernel
theorem dX2_at_0 : decode cX2_at 0 = .ok (.iload_n 1, 1) := dk_27 (dq_lk dX2_at_w0 (r := 0) (x := 27) rfl)
theorem dX2_at_1 : decode cX2_at 1 = .ok (.ifCond .lt 15, 3) := dk_155 (dq_lk dX2_at_w0 (r := 1) (x := 155) rfl) (dq_lk dX2_at_w0 (r := 2) (x := 0) rfl) (dq_lk dX2_at_w0 (r := 3) (x := 15) rfl) (by decide +kernel)
theorem dX2_at_4 : decode cX2_at 4 = .ok (.iload_n 1, 1) := dk_27 (dq_lk dX2_at_w0 (r := 4) (x := 27) rfl)
theorem dX2_at_5 : decode cX2_at 5 = .ok (.aload_n 0, 1) := dk_42 (dq_lk dX2_at_w0 (r := 5) (x := 42) rfl)
theorem dX2_at_6 : decode cX2_at 6 = .ok (.arraylength, 1) := dk_190 (dq_lk dX2_at_w0 (r := 6) (x := 190) rfl)
theorem dX2_at_7 : decode cX2_at 7 = .ok (.if_icmp .ge 9, 3) := dk_162 (dq_lk dX2_at_w0 (r := 7) (x := 162) rfl) (dq_lk dX2_at_w0 (r := 8) (x := 0) rfl) (dq_lk dX2_at_w0 (r := 9) (x := 9) rfl) (by decide +kernel)
theorem dX2_at_10 : decode cX2_at 10 = .ok (.aload_n 0, 1) := dk_42 (dq_lk dX2_at_w0 (r := 10) (x := 42) rfl)
theorem dX2_at_11 : decode cX2_at 11 = .ok (.iload_n 1, 1) := dk_27 (dq_lk dX2_at_w0 (r := 11) (x := 27) rfl)
theorem dX2_at_12 : decode cX2_at 12 = .ok (.aaload, 1) := dk_50 (dq_lk dX2_at_w0 (r := 12) (x := 50) rfl)
theorem dX2_at_13 : decode cX2_at 13 = .ok (.ifnonnull 13, 3) := dk_199 (dq_lk dX2_at_w0 (r := 13) (x := 199) rfl) (dq_lk dX2_at_w0 (r := 14) (x := 0) rfl) (dq_lk dX2_at_w0 (r := 15) (x := 13) rfl) (by decide +kernel)
theorem dX2_at_16 : decode cX2_at 16 = .ok (.new 250, 3) := dk_187 (dq_lk dX2_at_w0 (r := 16) (x := 187) rfl) (dq_lk dX2_at_w0 (r := 17) (x := 0) rfl) (dq_lk dX2_at_w0 (r := 18) (x := 250) rfl)
theorem dX2_at_19 : decode cX2_at 19 = .ok (.dup, 1) := dk_89 (dq_lk dX2_at_w0 (r := 19) (x := 89) rfl)
theorem dX2_at_20 : decode cX2_at 20 = .ok (.ldc 252, 2) := dk_18 (dq_lk dX2_at_w0 (r := 20) (x := 18) rfl) (dq_lk dX2_at_w0 (r := 21) (x := 252) rfl)
theorem dX2_at_22 : decode cX2_at 22 = .ok (.invokespecial 254, 3) := dk_183 (dq_lk dX2_at_w0 (r := 22) (x := 183) rfl) (dq_lk dX2_at_w0 (r := 23) (x := 0) rfl) (dq_lk dX2_at_w0 (r := 24) (x := 254) rfl)
theorem dX2_at_25 : decode cX2_at 25 = .ok (.athrow, 1) := dk_191 (dq_lk dX2_at_w0 (r := 25) (x := 191) rfl)
theorem dX2_at_26 : decode cX2_at 26 = .ok (.aload_n 0, 1) := dk_42 (dq_lk dX2_at_w0 (r := 26) (x := 42) rfl)
theorem dX2_at_27 : decode cX2_at 27 = .ok (.iload_n 1, 1) := dk_27 (dq_lk dX2_at_w0 (r := 27) (x := 27) rfl)
theorem dX2_at_28 : decode cX2_at 28 = .ok (.aaload, 1) := dk_50 (dq_lk dX2_at_w0 (r := 28) (x := 50) rfl)
theorem dX2_at_29 : decode cX2_at 29 = .ok (.areturn, 1) := dk_176 (dq_lk dX2_at_w0 (r := 29) (x := 176) rfl)
theorem c_X2_at (ad : Nat → Nat) (cs : ClassId × ClassId × ClassId) (ws : va_W) (q0 a n0 b0 : Nat) (he : ws[q0]? = some (a, .inl (cs.2.2, n0, .inr (.inr (.inr (.inr (fun j => some (ad (j + b0 + 5))))))))) (hN : n0 < 2 ^ 31) (p1 : Int32) : mCt (mTy cs) yX2_at cX2_at 2 (some (.object "Momentdesk$Local")) ⟨6, 1, 6, 82⟩ [.ref a, .int p1] ws (fun v ws' => ∃ j, j < n0 ∧ p1 = nI j ∧ v = some (.ref (ad (j + b0 + 5))) ∧ ws' = ws) (fun E ws' => E = xI ∧ ws' = ws ∧ ¬ vp_in p1 n0) := by
  refine mCt.of (by decide +kernel) (Nat.le_of_ble_eq_true rfl) (fun X hX hE => ?_)
  have hX : mOK X RX2 cX2_at 2 ⟨6, 1, 6, 82⟩ [] (mTy cs) := hX
  have thr : ∀ lv, ¬ vp_in p1 n0 → mV X 16 lv [] ws 0 0 := fun lv hn =>
    r_throw (cls := xI) (text := "there is no such one") (names := ["java/lang/RuntimeException", "java/lang/Exception"]) hX hE (by decide +kernel) (by decide +kernel) kl_X2_250 kt_java_lang_IndexOutOfBoundsException kat_one kgd_one (fun A U h => h.1) dX2_at_16 dX2_at_19 dX2_at_20 dX2_at_22 dX2_at_25 (by decide) (by decide) (by decide) (by decide) (by decide) (by decide) ⟨rfl, rfl, hn⟩
  refine r_iload_n hX dX2_at_0 rfl rfl ?_
  refine r_if_lt (tgt := 16) hX dX2_at_1 (by decide) (fun c1 => ?_) (fun c1 => ?_)
  · exact thr _ (fun h => h (Or.inl c1))
  · refine r_iload_n hX dX2_at_4 rfl rfl ?_
    refine r_aload_n hX dX2_at_5 rfl rfl ?_
    refine r_alen (v := nI n0) hX q0 2 he rfl rfl dX2_at_6 ?_
    obtain ⟨j, hj, rfl⟩ := nI_of c1
    refine r_icmp_ge (tgt := 16) hX dX2_at_7 (by decide) (fun c2 => ?_) (fun c2 => ?_)
    · exact thr _ (fun h => by
        have h2 := (vp_in_iff.mp h).2
        rw [nI_toInt hj] at h2
        have h3 := (nI_leI hN hj).mp c2
        omega)
    · have hjN : j < n0 := by
        rcases Nat.lt_or_ge j n0 with h | h
        · exact h
        · exact absurd ((nI_leI hN hj).mpr h) c2
      have hin := vp_in_nI hjN hN
      refine r_aload_n hX dX2_at_10 rfl rfl ?_
      refine r_iload_n hX dX2_at_11 rfl rfl ?_
      refine r_aald hX q0 2 he rfl hin dX2_at_12 ?_
      refine r_ifnonnull (x := ad ((nI j).toNatClampNeg + b0 + 5)) (tgt := 26) hX dX2_at_13 (by decide) ?_
      refine r_aload_n hX dX2_at_26 rfl rfl ?_
      refine r_iload_n hX dX2_at_27 rfl rfl ?_
      refine r_aald hX q0 2 he rfl hin dX2_at_28 ?_
      refine r_aret (v := .ref (ad ((nI j).toNatClampNeg + b0 + 5))) hX hE dX2_at_29 (Or.inl ⟨_, rfl⟩) (Or.inr ⟨_, rfl⟩) (Nat.le_of_ble_eq_true rfl) (Nat.le_of_ble_eq_true rfl) ⟨j, hjN, rfl, ?_, rfl⟩
      rw [nI_clamp hj]
theorem c_X2_at_ok (ad : Nat → Nat) (cs : ClassId × ClassId × ClassId) (ws : va_W) (q0 a n0 b0 : Nat) (he : ws[q0]? = some (a, .inl (cs.2.2, n0, .inr (.inr (.inr (.inr (fun j => some (ad (j + b0 + 5))))))))) (hN : n0 < 2 ^ 31) (j : Nat) (hjN : j < n0) : mCt (mTy cs) yX2_at cX2_at 2 (some (.object "Momentdesk$Local")) ⟨0, 0, 0, 0⟩ [.ref a, .int (nI j)] ws (fun v ws' => v = some (.ref (ad (j + b0 + 5))) ∧ ws' = ws) mNo := by
  refine mCt.of (by decide +kernel) (Nat.le_of_ble_eq_true rfl) (fun X hX hE => ?_)
  have hX : mOK X RX2 cX2_at 2 ⟨0, 0, 0, 0⟩ [] (mTy cs) := hX
  have hj : j < 2 ^ 31 := by omega
  have hin := vp_in_nI hjN hN
  refine r_iload_n hX dX2_at_0 rfl rfl ?_
  refine r_if_lt (tgt := 16) hX dX2_at_1 (by decide) (fun c1 => absurd c1 (nI_pos hj)) (fun c1 => ?_)
  refine r_iload_n hX dX2_at_4 rfl rfl ?_
  refine r_aload_n hX dX2_at_5 rfl rfl ?_
  refine r_alen (v := nI n0) hX q0 2 he rfl rfl dX2_at_6 ?_
  refine r_icmp_ge (tgt := 16) hX dX2_at_7 (by decide) (fun c2 => absurd ((nI_leI hN hj).mp c2) (by omega)) (fun c2 => ?_)
  refine r_aload_n hX dX2_at_10 rfl rfl ?_
  refine r_iload_n hX dX2_at_11 rfl rfl ?_
  refine r_aald hX q0 2 he rfl hin dX2_at_12 ?_
  refine r_ifnonnull (x := ad ((nI j).toNatClampNeg + b0 + 5)) (tgt := 26) hX dX2_at_13 (by decide) ?_
  refine r_aload_n hX dX2_at_26 rfl rfl ?_
  refine r_iload_n hX dX2_at_27 rfl rfl ?_
  refine r_aald hX q0 2 he rfl hin dX2_at_28 ?_
  refine r_aret (v := .ref (ad ((nI j).toNatClampNeg + b0 + 5))) hX hE dX2_at_29 (Or.inl ⟨_, rfl⟩) (Or.inr ⟨_, rfl⟩) (Nat.le_of_ble_eq_true rfl) (Nat.le_of_ble_eq_true rfl) ⟨?_, rfl⟩
  rw [nI_clamp hj]
theorem dX0_isLeap_w0 : (cX0_isLeap.data.toList.drop 0).take 64 = [26, 7, 112, 154, 0, 22, 26, 16, 100, 112, 154, 0, 11, 26, 17, 1, 144, 112, 154, 0, 7, 4, 167, 0, 4, 3, 172] := by decide +kernel
theorem dX0_isLeap_0 : decode cX0_isLeap 0 = .ok (.iload_n 0, 1) := dk_26 (dq_lk dX0_isLeap_w0 (r := 0) (x := 26) rfl)
theorem dX0_isLeap_1 : decode cX0_isLeap 1 = .ok (.iconst 4, 1) := dk_7 (dq_lk dX0_isLeap_w0 (r := 1) (x := 7) rfl)
theorem dX0_isLeap_2 : decode cX0_isLeap 2 = .ok (.irem, 1) := dk_112 (dq_lk dX0_isLeap_w0 (r := 2) (x := 112) rfl)
theorem dX0_isLeap_3 : decode cX0_isLeap 3 = .ok (.ifCond .ne 22, 3) := dk_154 (dq_lk dX0_isLeap_w0 (r := 3) (x := 154) rfl) (dq_lk dX0_isLeap_w0 (r := 4) (x := 0) rfl) (dq_lk dX0_isLeap_w0 (r := 5) (x := 22) rfl) (by decide +kernel)
theorem dX0_isLeap_6 : decode cX0_isLeap 6 = .ok (.iload_n 0, 1) := dk_26 (dq_lk dX0_isLeap_w0 (r := 6) (x := 26) rfl)
theorem dX0_isLeap_7 : decode cX0_isLeap 7 = .ok (.bipush 100, 2) := dk_16 (dq_lk dX0_isLeap_w0 (r := 7) (x := 16) rfl) (dq_lk dX0_isLeap_w0 (r := 8) (x := 100) rfl) (by decide +kernel)
theorem dX0_isLeap_9 : decode cX0_isLeap 9 = .ok (.irem, 1) := dk_112 (dq_lk dX0_isLeap_w0 (r := 9) (x := 112) rfl)
theorem dX0_isLeap_10 : decode cX0_isLeap 10 = .ok (.ifCond .ne 11, 3) := dk_154 (dq_lk dX0_isLeap_w0 (r := 10) (x := 154) rfl) (dq_lk dX0_isLeap_w0 (r := 11) (x := 0) rfl) (dq_lk dX0_isLeap_w0 (r := 12) (x := 11) rfl) (by decide +kernel)
theorem dX0_isLeap_13 : decode cX0_isLeap 13 = .ok (.iload_n 0, 1) := dk_26 (dq_lk dX0_isLeap_w0 (r := 13) (x := 26) rfl)
theorem dX0_isLeap_14 : decode cX0_isLeap 14 = .ok (.sipush 400, 3) := dk_17 (dq_lk dX0_isLeap_w0 (r := 14) (x := 17) rfl) (dq_lk dX0_isLeap_w0 (r := 15) (x := 1) rfl) (dq_lk dX0_isLeap_w0 (r := 16) (x := 144) rfl) (by decide +kernel)
theorem dX0_isLeap_17 : decode cX0_isLeap 17 = .ok (.irem, 1) := dk_112 (dq_lk dX0_isLeap_w0 (r := 17) (x := 112) rfl)
theorem dX0_isLeap_18 : decode cX0_isLeap 18 = .ok (.ifCond .ne 7, 3) := dk_154 (dq_lk dX0_isLeap_w0 (r := 18) (x := 154) rfl) (dq_lk dX0_isLeap_w0 (r := 19) (x := 0) rfl) (dq_lk dX0_isLeap_w0 (r := 20) (x := 7) rfl) (by decide +kernel)
theorem dX0_isLeap_21 : decode cX0_isLeap 21 = .ok (.iconst 1, 1) := dk_4 (dq_lk dX0_isLeap_w0 (r := 21) (x := 4) rfl)
theorem dX0_isLeap_22 : decode cX0_isLeap 22 = .ok (.goto 4, 3) := dk_167 (dq_lk dX0_isLeap_w0 (r := 22) (x := 167) rfl) (dq_lk dX0_isLeap_w0 (r := 23) (x := 0) rfl) (dq_lk dX0_isLeap_w0 (r := 24) (x := 4) rfl) (by decide +kernel)
theorem dX0_isLeap_25 : decode cX0_isLeap 25 = .ok (.iconst 0, 1) := dk_3 (dq_lk dX0_isLeap_w0 (r := 25) (x := 3) rfl)
theorem dX0_isLeap_26 : decode cX0_isLeap 26 = .ok (.ireturn, 1) := dk_172 (dq_lk dX0_isLeap_w0 (r := 26) (x := 172) rfl)
theorem dX0_lengthOfYear_w0 : (cX0_lengthOfYear.data.toList.drop 0).take 64 = [26, 184, 0, 9, 153, 0, 9, 17, 1, 110, 167, 0, 6, 17, 1, 109, 172] := by decide +kernel
theorem dX0_lengthOfYear_0 : decode cX0_lengthOfYear 0 = .ok (.iload_n 0, 1) := dk_26 (dq_lk dX0_lengthOfYear_w0 (r := 0) (x := 26) rfl)
theorem dX0_lengthOfYear_1 : decode cX0_lengthOfYear 1 = .ok (.invokestatic 9, 3) := dk_184 (dq_lk dX0_lengthOfYear_w0 (r := 1) (x := 184) rfl) (dq_lk dX0_lengthOfYear_w0 (r := 2) (x := 0) rfl) (dq_lk dX0_lengthOfYear_w0 (r := 3) (x := 9) rfl)
theorem dX0_lengthOfYear_4 : decode cX0_lengthOfYear 4 = .ok (.ifCond .eq 9, 3) := dk_153 (dq_lk dX0_lengthOfYear_w0 (r := 4) (x := 153) rfl) (dq_lk dX0_lengthOfYear_w0 (r := 5) (x := 0) rfl) (dq_lk dX0_lengthOfYear_w0 (r := 6) (x := 9) rfl) (by decide +kernel)
theorem dX0_lengthOfYear_7 : decode cX0_lengthOfYear 7 = .ok (.sipush 366, 3) := dk_17 (dq_lk dX0_lengthOfYear_w0 (r := 7) (x := 17) rfl) (dq_lk dX0_lengthOfYear_w0 (r := 8) (x := 1) rfl) (dq_lk dX0_lengthOfYear_w0 (r := 9) (x := 110) rfl) (by decide +kernel)
theorem dX0_lengthOfYear_10 : decode cX0_lengthOfYear 10 = .ok (.goto 6, 3) := dk_167 (dq_lk dX0_lengthOfYear_w0 (r := 10) (x := 167) rfl) (dq_lk dX0_lengthOfYear_w0 (r := 11) (x := 0) rfl) (dq_lk dX0_lengthOfYear_w0 (r := 12) (x := 6) rfl) (by decide +kernel)
theorem dX0_lengthOfYear_13 : decode cX0_lengthOfYear 13 = .ok (.sipush 365, 3) := dk_17 (dq_lk dX0_lengthOfYear_w0 (r := 13) (x := 17) rfl) (dq_lk dX0_lengthOfYear_w0 (r := 14) (x := 1) rfl) (dq_lk dX0_lengthOfYear_w0 (r := 15) (x := 109) rfl) (by decide +kernel)
theorem dX0_lengthOfYear_16 : decode cX0_lengthOfYear 16 = .ok (.ireturn, 1) := dk_172 (dq_lk dX0_lengthOfYear_w0 (r := 16) (x := 172) rfl)
theorem dX0_lengthOfMonth_w0 : (cX0_lengthOfMonth.data.toList.drop 0).take 64 = [27, 170, 0, 0, 0, 0, 0, 73, 0, 0, 0, 2, 0, 0, 0, 11, 0, 0, 0, 55, 0, 0, 0, 73, 0, 0, 0, 70, 0, 0, 0, 73, 0, 0, 0, 70, 0, 0, 0, 73, 0, 0, 0, 73, 0, 0, 0, 70, 0, 0, 0, 73, 0, 0, 0, 70, 26, 184, 0, 9, 153, 0, 8, 16] := by decide +kernel
theorem dX0_lengthOfMonth_w1 : (cX0_lengthOfMonth.data.toList.drop 64).take 64 = [29, 167, 0, 5, 16, 28, 172, 16, 30, 172, 16, 31, 172] := by decide +kernel
theorem dX0_lengthOfMonth_0 : decode cX0_lengthOfMonth 0 = .ok (.iload_n 1, 1) := dk_27 (dq_lk dX0_lengthOfMonth_w0 (r := 0) (x := 27) rfl)
theorem dX0_lengthOfMonth_1 : decode cX0_lengthOfMonth 1 = .ok (.tableswitch 73 2 11 #[55, 73, 70, 73, 70, 73, 73, 70, 73, 70], 55) := by decide +kernel
theorem dX0_lengthOfMonth_56 : decode cX0_lengthOfMonth 56 = .ok (.iload_n 0, 1) := dk_26 (dq_lk dX0_lengthOfMonth_w0 (r := 56) (x := 26) rfl)
theorem dX0_lengthOfMonth_57 : decode cX0_lengthOfMonth 57 = .ok (.invokestatic 9, 3) := dk_184 (dq_lk dX0_lengthOfMonth_w0 (r := 57) (x := 184) rfl) (dq_lk dX0_lengthOfMonth_w0 (r := 58) (x := 0) rfl) (dq_lk dX0_lengthOfMonth_w0 (r := 59) (x := 9) rfl)
theorem dX0_lengthOfMonth_60 : decode cX0_lengthOfMonth 60 = .ok (.ifCond .eq 8, 3) := dk_153 (dq_lk dX0_lengthOfMonth_w0 (r := 60) (x := 153) rfl) (dq_lk dX0_lengthOfMonth_w0 (r := 61) (x := 0) rfl) (dq_lk dX0_lengthOfMonth_w0 (r := 62) (x := 8) rfl) (by decide +kernel)
theorem dX0_lengthOfMonth_63 : decode cX0_lengthOfMonth 63 = .ok (.bipush 29, 2) := dk_16 (dq_lk dX0_lengthOfMonth_w0 (r := 63) (x := 16) rfl) (dq_lk dX0_lengthOfMonth_w1 (r := 0) (x := 29) rfl) (by decide +kernel)
theorem dX0_lengthOfMonth_65 : decode cX0_lengthOfMonth 65 = .ok (.goto 5, 3) := dk_167 (dq_lk dX0_lengthOfMonth_w1 (r := 1) (x := 167) rfl) (dq_lk dX0_lengthOfMonth_w1 (r := 2) (x := 0) rfl) (dq_lk dX0_lengthOfMonth_w1 (r := 3) (x := 5) rfl) (by decide +kernel)
theorem dX0_lengthOfMonth_68 : decode cX0_lengthOfMonth 68 = .ok (.bipush 28, 2) := dk_16 (dq_lk dX0_lengthOfMonth_w1 (r := 4) (x := 16) rfl) (dq_lk dX0_lengthOfMonth_w1 (r := 5) (x := 28) rfl) (by decide +kernel)
theorem dX0_lengthOfMonth_70 : decode cX0_lengthOfMonth 70 = .ok (.ireturn, 1) := dk_172 (dq_lk dX0_lengthOfMonth_w1 (r := 6) (x := 172) rfl)
theorem dX0_lengthOfMonth_71 : decode cX0_lengthOfMonth 71 = .ok (.bipush 30, 2) := dk_16 (dq_lk dX0_lengthOfMonth_w1 (r := 7) (x := 16) rfl) (dq_lk dX0_lengthOfMonth_w1 (r := 8) (x := 30) rfl) (by decide +kernel)
theorem dX0_lengthOfMonth_73 : decode cX0_lengthOfMonth 73 = .ok (.ireturn, 1) := dk_172 (dq_lk dX0_lengthOfMonth_w1 (r := 9) (x := 172) rfl)
theorem dX0_lengthOfMonth_74 : decode cX0_lengthOfMonth 74 = .ok (.bipush 31, 2) := dk_16 (dq_lk dX0_lengthOfMonth_w1 (r := 10) (x := 16) rfl) (dq_lk dX0_lengthOfMonth_w1 (r := 11) (x := 31) rfl) (by decide +kernel)
theorem dX0_lengthOfMonth_76 : decode cX0_lengthOfMonth 76 = .ok (.ireturn, 1) := dk_172 (dq_lk dX0_lengthOfMonth_w1 (r := 12) (x := 172) rfl)
theorem dX0_isDay_w0 : (cX0_isDay.data.toList.drop 0).take 64 = [27, 133, 10, 20, 0, 15, 184, 0, 17, 153, 0, 22, 28, 133, 10, 26, 27, 184, 0, 21, 133, 184, 0, 17, 153, 0, 7, 4, 167, 0, 4, 3, 172] := by decide +kernel
theorem dX0_isDay_0 : decode cX0_isDay 0 = .ok (.iload_n 1, 1) := dk_27 (dq_lk dX0_isDay_w0 (r := 0) (x := 27) rfl)
theorem dX0_isDay_1 : decode cX0_isDay 1 = .ok (.i2l, 1) := dk_133 (dq_lk dX0_isDay_w0 (r := 1) (x := 133) rfl)
theorem dX0_isDay_2 : decode cX0_isDay 2 = .ok (.lconst 1, 1) := dk_10 (dq_lk dX0_isDay_w0 (r := 2) (x := 10) rfl)
theorem dX0_isDay_3 : decode cX0_isDay 3 = .ok (.ldc2_w 15, 3) := dk_20 (dq_lk dX0_isDay_w0 (r := 3) (x := 20) rfl) (dq_lk dX0_isDay_w0 (r := 4) (x := 0) rfl) (dq_lk dX0_isDay_w0 (r := 5) (x := 15) rfl)
theorem dX0_isDay_6 : decode cX0_isDay 6 = .ok (.invokestatic 17, 3) := dk_184 (dq_lk dX0_isDay_w0 (r := 6) (x := 184) rfl) (dq_lk dX0_isDay_w0 (r := 7) (x := 0) rfl) (dq_lk dX0_isDay_w0 (r := 8) (x := 17) rfl)
theorem dX0_isDay_9 : decode cX0_isDay 9 = .ok (.ifCond .eq 22, 3) := dk_153 (dq_lk dX0_isDay_w0 (r := 9) (x := 153) rfl) (dq_lk dX0_isDay_w0 (r := 10) (x := 0) rfl) (dq_lk dX0_isDay_w0 (r := 11) (x := 22) rfl) (by decide +kernel)
theorem dX0_isDay_12 : decode cX0_isDay 12 = .ok (.iload_n 2, 1) := dk_28 (dq_lk dX0_isDay_w0 (r := 12) (x := 28) rfl)
theorem dX0_isDay_13 : decode cX0_isDay 13 = .ok (.i2l, 1) := dk_133 (dq_lk dX0_isDay_w0 (r := 13) (x := 133) rfl)
theorem dX0_isDay_14 : decode cX0_isDay 14 = .ok (.lconst 1, 1) := dk_10 (dq_lk dX0_isDay_w0 (r := 14) (x := 10) rfl)
theorem dX0_isDay_15 : decode cX0_isDay 15 = .ok (.iload_n 0, 1) := dk_26 (dq_lk dX0_isDay_w0 (r := 15) (x := 26) rfl)
theorem dX0_isDay_16 : decode cX0_isDay 16 = .ok (.iload_n 1, 1) := dk_27 (dq_lk dX0_isDay_w0 (r := 16) (x := 27) rfl)
theorem dX0_isDay_17 : decode cX0_isDay 17 = .ok (.invokestatic 21, 3) := dk_184 (dq_lk dX0_isDay_w0 (r := 17) (x := 184) rfl) (dq_lk dX0_isDay_w0 (r := 18) (x := 0) rfl) (dq_lk dX0_isDay_w0 (r := 19) (x := 21) rfl)
theorem dX0_isDay_20 : decode cX0_isDay 20 = .ok (.i2l, 1) := dk_133 (dq_lk dX0_isDay_w0 (r := 20) (x := 133) rfl)
theorem dX0_isDay_21 : decode cX0_isDay 21 = .ok (.invokestatic 17, 3) := dk_184 (dq_lk dX0_isDay_w0 (r := 21) (x := 184) rfl) (dq_lk dX0_isDay_w0 (r := 22) (x := 0) rfl) (dq_lk dX0_isDay_w0 (r := 23) (x := 17) rfl)
theorem dX0_isDay_24 : decode cX0_isDay 24 = .ok (.ifCond .eq 7, 3) := dk_153 (dq_lk dX0_isDay_w0 (r := 24) (x := 153) rfl) (dq_lk dX0_isDay_w0 (r := 25) (x := 0) rfl) (dq_lk dX0_isDay_w0 (r := 26) (x := 7) rfl) (by decide +kernel)
theorem dX0_isDay_27 : decode cX0_isDay 27 = .ok (.iconst 1, 1) := dk_4 (dq_lk dX0_isDay_w0 (r := 27) (x := 4) rfl)
theorem dX0_isDay_28 : decode cX0_isDay 28 = .ok (.goto 4, 3) := dk_167 (dq_lk dX0_isDay_w0 (r := 28) (x := 167) rfl) (dq_lk dX0_isDay_w0 (r := 29) (x := 0) rfl) (dq_lk dX0_isDay_w0 (r := 30) (x := 4) rfl) (by decide +kernel)
theorem dX0_isDay_31 : decode cX0_isDay 31 = .ok (.iconst 0, 1) := dk_3 (dq_lk dX0_isDay_w0 (r := 31) (x := 3) rfl)
theorem dX0_isDay_32 : decode cX0_isDay 32 = .ok (.ireturn, 1) := dk_172 (dq_lk dX0_isDay_w0 (r := 32) (x := 172) rfl)
theorem dX0_firstDayOf_w0 : (cX0_firstDayOf.data.toList.drop 0).take 64 = [26, 4, 100, 60, 27, 17, 1, 109, 104, 27, 7, 108, 96, 27, 16, 100, 108, 100, 27, 17, 1, 144, 108, 96, 18, 25, 100, 172] := by decide +kernel
theorem dX0_firstDayOf_0 : decode cX0_firstDayOf 0 = .ok (.iload_n 0, 1) := dk_26 (dq_lk dX0_firstDayOf_w0 (r := 0) (x := 26) rfl)
theorem dX0_firstDayOf_1 : decode cX0_firstDayOf 1 = .ok (.iconst 1, 1) := dk_4 (dq_lk dX0_firstDayOf_w0 (r := 1) (x := 4) rfl)
theorem dX0_firstDayOf_2 : decode cX0_firstDayOf 2 = .ok (.isub, 1) := dk_100 (dq_lk dX0_firstDayOf_w0 (r := 2) (x := 100) rfl)
theorem dX0_firstDayOf_3 : decode cX0_firstDayOf 3 = .ok (.istore_n 1, 1) := dk_60 (dq_lk dX0_firstDayOf_w0 (r := 3) (x := 60) rfl)
theorem dX0_firstDayOf_4 : decode cX0_firstDayOf 4 = .ok (.iload_n 1, 1) := dk_27 (dq_lk dX0_firstDayOf_w0 (r := 4) (x := 27) rfl)
theorem dX0_firstDayOf_5 : decode cX0_firstDayOf 5 = .ok (.sipush 365, 3) := dk_17 (dq_lk dX0_firstDayOf_w0 (r := 5) (x := 17) rfl) (dq_lk dX0_firstDayOf_w0 (r := 6) (x := 1) rfl) (dq_lk dX0_firstDayOf_w0 (r := 7) (x := 109) rfl) (by decide +kernel)
theorem dX0_firstDayOf_8 : decode cX0_firstDayOf 8 = .ok (.imul, 1) := dk_104 (dq_lk dX0_firstDayOf_w0 (r := 8) (x := 104) rfl)
theorem dX0_firstDayOf_9 : decode cX0_firstDayOf 9 = .ok (.iload_n 1, 1) := dk_27 (dq_lk dX0_firstDayOf_w0 (r := 9) (x := 27) rfl)
theorem dX0_firstDayOf_10 : decode cX0_firstDayOf 10 = .ok (.iconst 4, 1) := dk_7 (dq_lk dX0_firstDayOf_w0 (r := 10) (x := 7) rfl)
theorem dX0_firstDayOf_11 : decode cX0_firstDayOf 11 = .ok (.idiv, 1) := dk_108 (dq_lk dX0_firstDayOf_w0 (r := 11) (x := 108) rfl)
theorem dX0_firstDayOf_12 : decode cX0_firstDayOf 12 = .ok (.iadd, 1) := dk_96 (dq_lk dX0_firstDayOf_w0 (r := 12) (x := 96) rfl)
theorem dX0_firstDayOf_13 : decode cX0_firstDayOf 13 = .ok (.iload_n 1, 1) := dk_27 (dq_lk dX0_firstDayOf_w0 (r := 13) (x := 27) rfl)
theorem dX0_firstDayOf_14 : decode cX0_firstDayOf 14 = .ok (.bipush 100, 2) := dk_16 (dq_lk dX0_firstDayOf_w0 (r := 14) (x := 16) rfl) (dq_lk dX0_firstDayOf_w0 (r := 15) (x := 100) rfl) (by decide +kernel)
theorem dX0_firstDayOf_16 : decode cX0_firstDayOf 16 = .ok (.idiv, 1) := dk_108 (dq_lk dX0_firstDayOf_w0 (r := 16) (x := 108) rfl)
theorem dX0_firstDayOf_17 : decode cX0_firstDayOf 17 = .ok (.isub, 1) := dk_100 (dq_lk dX0_firstDayOf_w0 (r := 17) (x := 100) rfl)
theorem dX0_firstDayOf_18 : decode cX0_firstDayOf 18 = .ok (.iload_n 1, 1) := dk_27 (dq_lk dX0_firstDayOf_w0 (r := 18) (x := 27) rfl)
theorem dX0_firstDayOf_19 : decode cX0_firstDayOf 19 = .ok (.sipush 400, 3) := dk_17 (dq_lk dX0_firstDayOf_w0 (r := 19) (x := 17) rfl) (dq_lk dX0_firstDayOf_w0 (r := 20) (x := 1) rfl) (dq_lk dX0_firstDayOf_w0 (r := 21) (x := 144) rfl) (by decide +kernel)
theorem dX0_firstDayOf_22 : decode cX0_firstDayOf 22 = .ok (.idiv, 1) := dk_108 (dq_lk dX0_firstDayOf_w0 (r := 22) (x := 108) rfl)
theorem dX0_firstDayOf_23 : decode cX0_firstDayOf 23 = .ok (.iadd, 1) := dk_96 (dq_lk dX0_firstDayOf_w0 (r := 23) (x := 96) rfl)
theorem dX0_firstDayOf_24 : decode cX0_firstDayOf 24 = .ok (.ldc 25, 2) := dk_18 (dq_lk dX0_firstDayOf_w0 (r := 24) (x := 18) rfl) (dq_lk dX0_firstDayOf_w0 (r := 25) (x := 25) rfl)
theorem dX0_firstDayOf_26 : decode cX0_firstDayOf 26 = .ok (.isub, 1) := dk_100 (dq_lk dX0_firstDayOf_w0 (r := 26) (x := 100) rfl)
theorem dX0_firstDayOf_27 : decode cX0_firstDayOf 27 = .ok (.ireturn, 1) := dk_172 (dq_lk dX0_firstDayOf_w0 (r := 27) (x := 172) rfl)
theorem dX0_daysBeforeMonth_w0 : (cX0_daysBeforeMonth.data.toList.drop 0).take 64 = [17, 1, 111, 27, 104, 17, 1, 106, 100, 16, 12, 108, 61, 27, 5, 163, 0, 7, 28, 167, 0, 19, 26, 184, 0, 9, 153, 0, 9, 28, 4, 100, 167, 0, 6, 28, 5, 100, 172] := by decide +kernel
theorem dX0_daysBeforeMonth_0 : decode cX0_daysBeforeMonth 0 = .ok (.sipush 367, 3) := dk_17 (dq_lk dX0_daysBeforeMonth_w0 (r := 0) (x := 17) rfl) (dq_lk dX0_daysBeforeMonth_w0 (r := 1) (x := 1) rfl) (dq_lk dX0_daysBeforeMonth_w0 (r := 2) (x := 111) rfl) (by decide +kernel)
theorem dX0_daysBeforeMonth_3 : decode cX0_daysBeforeMonth 3 = .ok (.iload_n 1, 1) := dk_27 (dq_lk dX0_daysBeforeMonth_w0 (r := 3) (x := 27) rfl)
theorem dX0_daysBeforeMonth_4 : decode cX0_daysBeforeMonth 4 = .ok (.imul, 1) := dk_104 (dq_lk dX0_daysBeforeMonth_w0 (r := 4) (x := 104) rfl)
theorem dX0_daysBeforeMonth_5 : decode cX0_daysBeforeMonth 5 = .ok (.sipush 362, 3) := dk_17 (dq_lk dX0_daysBeforeMonth_w0 (r := 5) (x := 17) rfl) (dq_lk dX0_daysBeforeMonth_w0 (r := 6) (x := 1) rfl) (dq_lk dX0_daysBeforeMonth_w0 (r := 7) (x := 106) rfl) (by decide +kernel)
theorem dX0_daysBeforeMonth_8 : decode cX0_daysBeforeMonth 8 = .ok (.isub, 1) := dk_100 (dq_lk dX0_daysBeforeMonth_w0 (r := 8) (x := 100) rfl)
theorem dX0_daysBeforeMonth_9 : decode cX0_daysBeforeMonth 9 = .ok (.bipush 12, 2) := dk_16 (dq_lk dX0_daysBeforeMonth_w0 (r := 9) (x := 16) rfl) (dq_lk dX0_daysBeforeMonth_w0 (r := 10) (x := 12) rfl) (by decide +kernel)
theorem dX0_daysBeforeMonth_11 : decode cX0_daysBeforeMonth 11 = .ok (.idiv, 1) := dk_108 (dq_lk dX0_daysBeforeMonth_w0 (r := 11) (x := 108) rfl)
theorem dX0_daysBeforeMonth_12 : decode cX0_daysBeforeMonth 12 = .ok (.istore_n 2, 1) := dk_61 (dq_lk dX0_daysBeforeMonth_w0 (r := 12) (x := 61) rfl)
theorem dX0_daysBeforeMonth_13 : decode cX0_daysBeforeMonth 13 = .ok (.iload_n 1, 1) := dk_27 (dq_lk dX0_daysBeforeMonth_w0 (r := 13) (x := 27) rfl)
theorem dX0_daysBeforeMonth_14 : decode cX0_daysBeforeMonth 14 = .ok (.iconst 2, 1) := dk_5 (dq_lk dX0_daysBeforeMonth_w0 (r := 14) (x := 5) rfl)
theorem dX0_daysBeforeMonth_15 : decode cX0_daysBeforeMonth 15 = .ok (.if_icmp .gt 7, 3) := dk_163 (dq_lk dX0_daysBeforeMonth_w0 (r := 15) (x := 163) rfl) (dq_lk dX0_daysBeforeMonth_w0 (r := 16) (x := 0) rfl) (dq_lk dX0_daysBeforeMonth_w0 (r := 17) (x := 7) rfl) (by decide +kernel)
theorem dX0_daysBeforeMonth_18 : decode cX0_daysBeforeMonth 18 = .ok (.iload_n 2, 1) := dk_28 (dq_lk dX0_daysBeforeMonth_w0 (r := 18) (x := 28) rfl)
theorem dX0_daysBeforeMonth_19 : decode cX0_daysBeforeMonth 19 = .ok (.goto 19, 3) := dk_167 (dq_lk dX0_daysBeforeMonth_w0 (r := 19) (x := 167) rfl) (dq_lk dX0_daysBeforeMonth_w0 (r := 20) (x := 0) rfl) (dq_lk dX0_daysBeforeMonth_w0 (r := 21) (x := 19) rfl) (by decide +kernel)
theorem dX0_daysBeforeMonth_22 : decode cX0_daysBeforeMonth 22 = .ok (.iload_n 0, 1) := dk_26 (dq_lk dX0_daysBeforeMonth_w0 (r := 22) (x := 26) rfl)
theorem dX0_daysBeforeMonth_23 : decode cX0_daysBeforeMonth 23 = .ok (.invokestatic 9, 3) := dk_184 (dq_lk dX0_daysBeforeMonth_w0 (r := 23) (x := 184) rfl) (dq_lk dX0_daysBeforeMonth_w0 (r := 24) (x := 0) rfl) (dq_lk dX0_daysBeforeMonth_w0 (r := 25) (x := 9) rfl)
theorem dX0_daysBeforeMonth_26 : decode cX0_daysBeforeMonth 26 = .ok (.ifCond .eq 9, 3) := dk_153 (dq_lk dX0_daysBeforeMonth_w0 (r := 26) (x := 153) rfl) (dq_lk dX0_daysBeforeMonth_w0 (r := 27) (x := 0) rfl) (dq_lk dX0_daysBeforeMonth_w0 (r := 28) (x := 9) rfl) (by decide +kernel)
theorem dX0_daysBeforeMonth_29 : decode cX0_daysBeforeMonth 29 = .ok (.iload_n 2, 1) := dk_28 (dq_lk dX0_daysBeforeMonth_w0 (r := 29) (x := 28) rfl)
theorem dX0_daysBeforeMonth_30 : decode cX0_daysBeforeMonth 30 = .ok (.iconst 1, 1) := dk_4 (dq_lk dX0_daysBeforeMonth_w0 (r := 30) (x := 4) rfl)
theorem dX0_daysBeforeMonth_31 : decode cX0_daysBeforeMonth 31 = .ok (.isub, 1) := dk_100 (dq_lk dX0_daysBeforeMonth_w0 (r := 31) (x := 100) rfl)
theorem dX0_daysBeforeMonth_32 : decode cX0_daysBeforeMonth 32 = .ok (.goto 6, 3) := dk_167 (dq_lk dX0_daysBeforeMonth_w0 (r := 32) (x := 167) rfl) (dq_lk dX0_daysBeforeMonth_w0 (r := 33) (x := 0) rfl) (dq_lk dX0_daysBeforeMonth_w0 (r := 34) (x := 6) rfl) (by decide +kernel)
theorem dX0_daysBeforeMonth_35 : decode cX0_daysBeforeMonth 35 = .ok (.iload_n 2, 1) := dk_28 (dq_lk dX0_daysBeforeMonth_w0 (r := 35) (x := 28) rfl)
theorem dX0_daysBeforeMonth_36 : decode cX0_daysBeforeMonth 36 = .ok (.iconst 2, 1) := dk_5 (dq_lk dX0_daysBeforeMonth_w0 (r := 36) (x := 5) rfl)
theorem dX0_daysBeforeMonth_37 : decode cX0_daysBeforeMonth 37 = .ok (.isub, 1) := dk_100 (dq_lk dX0_daysBeforeMonth_w0 (r := 37) (x := 100) rfl)
theorem dX0_daysBeforeMonth_38 : decode cX0_daysBeforeMonth 38 = .ok (.ireturn, 1) := dk_172 (dq_lk dX0_daysBeforeMonth_w0 (r := 38) (x := 172) rfl)
theorem dX0_dayOf_w0 : (cX0_dayOf.data.toList.drop 0).take 64 = [26, 184, 0, 26, 26, 27, 184, 0, 30, 96, 28, 96, 4, 100, 172] := by decide +kernel
theorem dX0_dayOf_0 : decode cX0_dayOf 0 = .ok (.iload_n 0, 1) := dk_26 (dq_lk dX0_dayOf_w0 (r := 0) (x := 26) rfl)
theorem dX0_dayOf_1 : decode cX0_dayOf 1 = .ok (.invokestatic 26, 3) := dk_184 (dq_lk dX0_dayOf_w0 (r := 1) (x := 184) rfl) (dq_lk dX0_dayOf_w0 (r := 2) (x := 0) rfl) (dq_lk dX0_dayOf_w0 (r := 3) (x := 26) rfl)
theorem dX0_dayOf_4 : decode cX0_dayOf 4 = .ok (.iload_n 0, 1) := dk_26 (dq_lk dX0_dayOf_w0 (r := 4) (x := 26) rfl)
theorem dX0_dayOf_5 : decode cX0_dayOf 5 = .ok (.iload_n 1, 1) := dk_27 (dq_lk dX0_dayOf_w0 (r := 5) (x := 27) rfl)
theorem dX0_dayOf_6 : decode cX0_dayOf 6 = .ok (.invokestatic 30, 3) := dk_184 (dq_lk dX0_dayOf_w0 (r := 6) (x := 184) rfl) (dq_lk dX0_dayOf_w0 (r := 7) (x := 0) rfl) (dq_lk dX0_dayOf_w0 (r := 8) (x := 30) rfl)
theorem dX0_dayOf_9 : decode cX0_dayOf 9 = .ok (.iadd, 1) := dk_96 (dq_lk dX0_dayOf_w0 (r := 9) (x := 96) rfl)
theorem dX0_dayOf_10 : decode cX0_dayOf 10 = .ok (.iload_n 2, 1) := dk_28 (dq_lk dX0_dayOf_w0 (r := 10) (x := 28) rfl)
theorem dX0_dayOf_11 : decode cX0_dayOf 11 = .ok (.iadd, 1) := dk_96 (dq_lk dX0_dayOf_w0 (r := 11) (x := 96) rfl)
theorem dX0_dayOf_12 : decode cX0_dayOf 12 = .ok (.iconst 1, 1) := dk_4 (dq_lk dX0_dayOf_w0 (r := 12) (x := 4) rfl)
theorem dX0_dayOf_13 : decode cX0_dayOf 13 = .ok (.isub, 1) := dk_100 (dq_lk dX0_dayOf_w0 (r := 13) (x := 100) rfl)
theorem dX0_dayOf_14 : decode cX0_dayOf 14 = .ok (.ireturn, 1) := dk_172 (dq_lk dX0_dayOf_w0 (r := 14) (x := 172) rfl)
theorem dX0_yearOf_w0 : (cX0_yearOf.data.toList.drop 0).take 64 = [17, 7, 118, 26, 17, 170, 101, 100, 17, 1, 110, 108, 96, 60, 26, 27, 4, 96, 184, 0, 26, 162, 0, 7, 27, 167, 0, 6, 27, 4, 96, 172] := by decide +kernel
theorem dX0_yearOf_0 : decode cX0_yearOf 0 = .ok (.sipush 1910, 3) := dk_17 (dq_lk dX0_yearOf_w0 (r := 0) (x := 17) rfl) (dq_lk dX0_yearOf_w0 (r := 1) (x := 7) rfl) (dq_lk dX0_yearOf_w0 (r := 2) (x := 118) rfl) (by decide +kernel)
theorem dX0_yearOf_3 : decode cX0_yearOf 3 = .ok (.iload_n 0, 1) := dk_26 (dq_lk dX0_yearOf_w0 (r := 3) (x := 26) rfl)
theorem dX0_yearOf_4 : decode cX0_yearOf 4 = .ok (.sipush (-21915), 3) := dk_17 (dq_lk dX0_yearOf_w0 (r := 4) (x := 17) rfl) (dq_lk dX0_yearOf_w0 (r := 5) (x := 170) rfl) (dq_lk dX0_yearOf_w0 (r := 6) (x := 101) rfl) (by decide +kernel)
theorem dX0_yearOf_7 : decode cX0_yearOf 7 = .ok (.isub, 1) := dk_100 (dq_lk dX0_yearOf_w0 (r := 7) (x := 100) rfl)
theorem dX0_yearOf_8 : decode cX0_yearOf 8 = .ok (.sipush 366, 3) := dk_17 (dq_lk dX0_yearOf_w0 (r := 8) (x := 17) rfl) (dq_lk dX0_yearOf_w0 (r := 9) (x := 1) rfl) (dq_lk dX0_yearOf_w0 (r := 10) (x := 110) rfl) (by decide +kernel)
theorem dX0_yearOf_11 : decode cX0_yearOf 11 = .ok (.idiv, 1) := dk_108 (dq_lk dX0_yearOf_w0 (r := 11) (x := 108) rfl)
theorem dX0_yearOf_12 : decode cX0_yearOf 12 = .ok (.iadd, 1) := dk_96 (dq_lk dX0_yearOf_w0 (r := 12) (x := 96) rfl)
theorem dX0_yearOf_13 : decode cX0_yearOf 13 = .ok (.istore_n 1, 1) := dk_60 (dq_lk dX0_yearOf_w0 (r := 13) (x := 60) rfl)
theorem dX0_yearOf_14 : decode cX0_yearOf 14 = .ok (.iload_n 0, 1) := dk_26 (dq_lk dX0_yearOf_w0 (r := 14) (x := 26) rfl)
theorem dX0_yearOf_15 : decode cX0_yearOf 15 = .ok (.iload_n 1, 1) := dk_27 (dq_lk dX0_yearOf_w0 (r := 15) (x := 27) rfl)
theorem dX0_yearOf_16 : decode cX0_yearOf 16 = .ok (.iconst 1, 1) := dk_4 (dq_lk dX0_yearOf_w0 (r := 16) (x := 4) rfl)
theorem dX0_yearOf_17 : decode cX0_yearOf 17 = .ok (.iadd, 1) := dk_96 (dq_lk dX0_yearOf_w0 (r := 17) (x := 96) rfl)
theorem dX0_yearOf_18 : decode cX0_yearOf 18 = .ok (.invokestatic 26, 3) := dk_184 (dq_lk dX0_yearOf_w0 (r := 18) (x := 184) rfl) (dq_lk dX0_yearOf_w0 (r := 19) (x := 0) rfl) (dq_lk dX0_yearOf_w0 (r := 20) (x := 26) rfl)
theorem dX0_yearOf_21 : decode cX0_yearOf 21 = .ok (.if_icmp .ge 7, 3) := dk_162 (dq_lk dX0_yearOf_w0 (r := 21) (x := 162) rfl) (dq_lk dX0_yearOf_w0 (r := 22) (x := 0) rfl) (dq_lk dX0_yearOf_w0 (r := 23) (x := 7) rfl) (by decide +kernel)
theorem dX0_yearOf_24 : decode cX0_yearOf 24 = .ok (.iload_n 1, 1) := dk_27 (dq_lk dX0_yearOf_w0 (r := 24) (x := 27) rfl)
theorem dX0_yearOf_25 : decode cX0_yearOf 25 = .ok (.goto 6, 3) := dk_167 (dq_lk dX0_yearOf_w0 (r := 25) (x := 167) rfl) (dq_lk dX0_yearOf_w0 (r := 26) (x := 0) rfl) (dq_lk dX0_yearOf_w0 (r := 27) (x := 6) rfl) (by decide +kernel)
theorem dX0_yearOf_28 : decode cX0_yearOf 28 = .ok (.iload_n 1, 1) := dk_27 (dq_lk dX0_yearOf_w0 (r := 28) (x := 27) rfl)
theorem dX0_yearOf_29 : decode cX0_yearOf 29 = .ok (.iconst 1, 1) := dk_4 (dq_lk dX0_yearOf_w0 (r := 29) (x := 4) rfl)
theorem dX0_yearOf_30 : decode cX0_yearOf 30 = .ok (.iadd, 1) := dk_96 (dq_lk dX0_yearOf_w0 (r := 30) (x := 96) rfl)
theorem dX0_yearOf_31 : decode cX0_yearOf 31 = .ok (.ireturn, 1) := dk_172 (dq_lk dX0_yearOf_w0 (r := 31) (x := 172) rfl)
theorem dX0_dayOfYear_w0 : (cX0_dayOfYear.data.toList.drop 0).take 64 = [26, 26, 184, 0, 33, 184, 0, 26, 100, 4, 96, 172] := by decide +kernel
theorem dX0_dayOfYear_0 : decode cX0_dayOfYear 0 = .ok (.iload_n 0, 1) := dk_26 (dq_lk dX0_dayOfYear_w0 (r := 0) (x := 26) rfl)
theorem dX0_dayOfYear_1 : decode cX0_dayOfYear 1 = .ok (.iload_n 0, 1) := dk_26 (dq_lk dX0_dayOfYear_w0 (r := 1) (x := 26) rfl)
theorem dX0_dayOfYear_2 : decode cX0_dayOfYear 2 = .ok (.invokestatic 33, 3) := dk_184 (dq_lk dX0_dayOfYear_w0 (r := 2) (x := 184) rfl) (dq_lk dX0_dayOfYear_w0 (r := 3) (x := 0) rfl) (dq_lk dX0_dayOfYear_w0 (r := 4) (x := 33) rfl)
theorem dX0_dayOfYear_5 : decode cX0_dayOfYear 5 = .ok (.invokestatic 26, 3) := dk_184 (dq_lk dX0_dayOfYear_w0 (r := 5) (x := 184) rfl) (dq_lk dX0_dayOfYear_w0 (r := 6) (x := 0) rfl) (dq_lk dX0_dayOfYear_w0 (r := 7) (x := 26) rfl)
theorem dX0_dayOfYear_8 : decode cX0_dayOfYear 8 = .ok (.isub, 1) := dk_100 (dq_lk dX0_dayOfYear_w0 (r := 8) (x := 100) rfl)
theorem dX0_dayOfYear_9 : decode cX0_dayOfYear 9 = .ok (.iconst 1, 1) := dk_4 (dq_lk dX0_dayOfYear_w0 (r := 9) (x := 4) rfl)
theorem dX0_dayOfYear_10 : decode cX0_dayOfYear 10 = .ok (.iadd, 1) := dk_96 (dq_lk dX0_dayOfYear_w0 (r := 10) (x := 96) rfl)
theorem dX0_dayOfYear_11 : decode cX0_dayOfYear 11 = .ok (.ireturn, 1) := dk_172 (dq_lk dX0_dayOfYear_w0 (r := 11) (x := 172) rfl)
theorem dX0_monthOf_w0 : (cX0_monthOf.data.toList.drop 0).take 64 = [26, 184, 0, 33, 60, 26, 27, 184, 0, 26, 100, 61, 4, 62, 29, 16, 12, 162, 0, 20, 28, 27, 29, 4, 96, 184, 0, 30, 161, 0, 9, 132, 3, 1, 167, 255, 236, 29, 172] := by decide +kernel
theorem dX0_monthOf_0 : decode cX0_monthOf 0 = .ok (.iload_n 0, 1) := dk_26 (dq_lk dX0_monthOf_w0 (r := 0) (x := 26) rfl)
theorem dX0_monthOf_1 : decode cX0_monthOf 1 = .ok (.invokestatic 33, 3) := dk_184 (dq_lk dX0_monthOf_w0 (r := 1) (x := 184) rfl) (dq_lk dX0_monthOf_w0 (r := 2) (x := 0) rfl) (dq_lk dX0_monthOf_w0 (r := 3) (x := 33) rfl)
theorem dX0_monthOf_4 : decode cX0_monthOf 4 = .ok (.istore_n 1, 1) := dk_60 (dq_lk dX0_monthOf_w0 (r := 4) (x := 60) rfl)
theorem dX0_monthOf_5 : decode cX0_monthOf 5 = .ok (.iload_n 0, 1) := dk_26 (dq_lk dX0_monthOf_w0 (r := 5) (x := 26) rfl)
theorem dX0_monthOf_6 : decode cX0_monthOf 6 = .ok (.iload_n 1, 1) := dk_27 (dq_lk dX0_monthOf_w0 (r := 6) (x := 27) rfl)
theorem dX0_monthOf_7 : decode cX0_monthOf 7 = .ok (.invokestatic 26, 3) := dk_184 (dq_lk dX0_monthOf_w0 (r := 7) (x := 184) rfl) (dq_lk dX0_monthOf_w0 (r := 8) (x := 0) rfl) (dq_lk dX0_monthOf_w0 (r := 9) (x := 26) rfl)
theorem dX0_monthOf_10 : decode cX0_monthOf 10 = .ok (.isub, 1) := dk_100 (dq_lk dX0_monthOf_w0 (r := 10) (x := 100) rfl)
theorem dX0_monthOf_11 : decode cX0_monthOf 11 = .ok (.istore_n 2, 1) := dk_61 (dq_lk dX0_monthOf_w0 (r := 11) (x := 61) rfl)
theorem dX0_monthOf_12 : decode cX0_monthOf 12 = .ok (.iconst 1, 1) := dk_4 (dq_lk dX0_monthOf_w0 (r := 12) (x := 4) rfl)
theorem dX0_monthOf_13 : decode cX0_monthOf 13 = .ok (.istore_n 3, 1) := dk_62 (dq_lk dX0_monthOf_w0 (r := 13) (x := 62) rfl)
theorem dX0_monthOf_14 : decode cX0_monthOf 14 = .ok (.iload_n 3, 1) := dk_29 (dq_lk dX0_monthOf_w0 (r := 14) (x := 29) rfl)
theorem dX0_monthOf_15 : decode cX0_monthOf 15 = .ok (.bipush 12, 2) := dk_16 (dq_lk dX0_monthOf_w0 (r := 15) (x := 16) rfl) (dq_lk dX0_monthOf_w0 (r := 16) (x := 12) rfl) (by decide +kernel)
theorem dX0_monthOf_17 : decode cX0_monthOf 17 = .ok (.if_icmp .ge 20, 3) := dk_162 (dq_lk dX0_monthOf_w0 (r := 17) (x := 162) rfl) (dq_lk dX0_monthOf_w0 (r := 18) (x := 0) rfl) (dq_lk dX0_monthOf_w0 (r := 19) (x := 20) rfl) (by decide +kernel)
theorem dX0_monthOf_20 : decode cX0_monthOf 20 = .ok (.iload_n 2, 1) := dk_28 (dq_lk dX0_monthOf_w0 (r := 20) (x := 28) rfl)
theorem dX0_monthOf_21 : decode cX0_monthOf 21 = .ok (.iload_n 1, 1) := dk_27 (dq_lk dX0_monthOf_w0 (r := 21) (x := 27) rfl)
theorem dX0_monthOf_22 : decode cX0_monthOf 22 = .ok (.iload_n 3, 1) := dk_29 (dq_lk dX0_monthOf_w0 (r := 22) (x := 29) rfl)
theorem dX0_monthOf_23 : decode cX0_monthOf 23 = .ok (.iconst 1, 1) := dk_4 (dq_lk dX0_monthOf_w0 (r := 23) (x := 4) rfl)
theorem dX0_monthOf_24 : decode cX0_monthOf 24 = .ok (.iadd, 1) := dk_96 (dq_lk dX0_monthOf_w0 (r := 24) (x := 96) rfl)
theorem dX0_monthOf_25 : decode cX0_monthOf 25 = .ok (.invokestatic 30, 3) := dk_184 (dq_lk dX0_monthOf_w0 (r := 25) (x := 184) rfl) (dq_lk dX0_monthOf_w0 (r := 26) (x := 0) rfl) (dq_lk dX0_monthOf_w0 (r := 27) (x := 30) rfl)
theorem dX0_monthOf_28 : decode cX0_monthOf 28 = .ok (.if_icmp .lt 9, 3) := dk_161 (dq_lk dX0_monthOf_w0 (r := 28) (x := 161) rfl) (dq_lk dX0_monthOf_w0 (r := 29) (x := 0) rfl) (dq_lk dX0_monthOf_w0 (r := 30) (x := 9) rfl) (by decide +kernel)
theorem dX0_monthOf_31 : decode cX0_monthOf 31 = .ok (.iinc 3 1, 3) := dk_132 (dq_lk dX0_monthOf_w0 (r := 31) (x := 132) rfl) (dq_lk dX0_monthOf_w0 (r := 32) (x := 3) rfl) (dq_lk dX0_monthOf_w0 (r := 33) (x := 1) rfl) (by decide +kernel)
theorem dX0_monthOf_34 : decode cX0_monthOf 34 = .ok (.goto (-20), 3) := dk_167 (dq_lk dX0_monthOf_w0 (r := 34) (x := 167) rfl) (dq_lk dX0_monthOf_w0 (r := 35) (x := 255) rfl) (dq_lk dX0_monthOf_w0 (r := 36) (x := 236) rfl) (by decide +kernel)
theorem dX0_monthOf_37 : decode cX0_monthOf 37 = .ok (.iload_n 3, 1) := dk_29 (dq_lk dX0_monthOf_w0 (r := 37) (x := 29) rfl)
theorem dX0_monthOf_38 : decode cX0_monthOf 38 = .ok (.ireturn, 1) := dk_172 (dq_lk dX0_monthOf_w0 (r := 38) (x := 172) rfl)
theorem dX0_dayOfMonth_w0 : (cX0_dayOfMonth.data.toList.drop 0).take 64 = [26, 184, 0, 36, 26, 184, 0, 33, 26, 184, 0, 39, 184, 0, 30, 100, 172] := by decide +kernel
theorem dX0_dayOfMonth_0 : decode cX0_dayOfMonth 0 = .ok (.iload_n 0, 1) := dk_26 (dq_lk dX0_dayOfMonth_w0 (r := 0) (x := 26) rfl)
theorem dX0_dayOfMonth_1 : decode cX0_dayOfMonth 1 = .ok (.invokestatic 36, 3) := dk_184 (dq_lk dX0_dayOfMonth_w0 (r := 1) (x := 184) rfl) (dq_lk dX0_dayOfMonth_w0 (r := 2) (x := 0) rfl) (dq_lk dX0_dayOfMonth_w0 (r := 3) (x := 36) rfl)
theorem dX0_dayOfMonth_4 : decode cX0_dayOfMonth 4 = .ok (.iload_n 0, 1) := dk_26 (dq_lk dX0_dayOfMonth_w0 (r := 4) (x := 26) rfl)
theorem dX0_dayOfMonth_5 : decode cX0_dayOfMonth 5 = .ok (.invokestatic 33, 3) := dk_184 (dq_lk dX0_dayOfMonth_w0 (r := 5) (x := 184) rfl) (dq_lk dX0_dayOfMonth_w0 (r := 6) (x := 0) rfl) (dq_lk dX0_dayOfMonth_w0 (r := 7) (x := 33) rfl)
theorem dX0_dayOfMonth_8 : decode cX0_dayOfMonth 8 = .ok (.iload_n 0, 1) := dk_26 (dq_lk dX0_dayOfMonth_w0 (r := 8) (x := 26) rfl)
theorem dX0_dayOfMonth_9 : decode cX0_dayOfMonth 9 = .ok (.invokestatic 39, 3) := dk_184 (dq_lk dX0_dayOfMonth_w0 (r := 9) (x := 184) rfl) (dq_lk dX0_dayOfMonth_w0 (r := 10) (x := 0) rfl) (dq_lk dX0_dayOfMonth_w0 (r := 11) (x := 39) rfl)
theorem dX0_dayOfMonth_12 : decode cX0_dayOfMonth 12 = .ok (.invokestatic 30, 3) := dk_184 (dq_lk dX0_dayOfMonth_w0 (r := 12) (x := 184) rfl) (dq_lk dX0_dayOfMonth_w0 (r := 13) (x := 0) rfl) (dq_lk dX0_dayOfMonth_w0 (r := 14) (x := 30) rfl)
theorem dX0_dayOfMonth_15 : decode cX0_dayOfMonth 15 = .ok (.isub, 1) := dk_100 (dq_lk dX0_dayOfMonth_w0 (r := 15) (x := 100) rfl)
theorem dX0_dayOfMonth_16 : decode cX0_dayOfMonth 16 = .ok (.ireturn, 1) := dk_172 (dq_lk dX0_dayOfMonth_w0 (r := 16) (x := 172) rfl)
theorem dX0_dayOfWeek_w0 : (cX0_dayOfWeek.data.toList.drop 0).take 64 = [26, 6, 96, 16, 7, 184, 0, 42, 4, 96, 172] := by decide +kernel
theorem dX0_dayOfWeek_0 : decode cX0_dayOfWeek 0 = .ok (.iload_n 0, 1) := dk_26 (dq_lk dX0_dayOfWeek_w0 (r := 0) (x := 26) rfl)
theorem dX0_dayOfWeek_1 : decode cX0_dayOfWeek 1 = .ok (.iconst 3, 1) := dk_6 (dq_lk dX0_dayOfWeek_w0 (r := 1) (x := 6) rfl)
theorem dX0_dayOfWeek_2 : decode cX0_dayOfWeek 2 = .ok (.iadd, 1) := dk_96 (dq_lk dX0_dayOfWeek_w0 (r := 2) (x := 96) rfl)
theorem dX0_dayOfWeek_3 : decode cX0_dayOfWeek 3 = .ok (.bipush 7, 2) := dk_16 (dq_lk dX0_dayOfWeek_w0 (r := 3) (x := 16) rfl) (dq_lk dX0_dayOfWeek_w0 (r := 4) (x := 7) rfl) (by decide +kernel)
theorem dX0_dayOfWeek_5 : decode cX0_dayOfWeek 5 = .ok (.invokestatic 42, 3) := dk_184 (dq_lk dX0_dayOfWeek_w0 (r := 5) (x := 184) rfl) (dq_lk dX0_dayOfWeek_w0 (r := 6) (x := 0) rfl) (dq_lk dX0_dayOfWeek_w0 (r := 7) (x := 42) rfl)
theorem dX0_dayOfWeek_8 : decode cX0_dayOfWeek 8 = .ok (.iconst 1, 1) := dk_4 (dq_lk dX0_dayOfWeek_w0 (r := 8) (x := 4) rfl)
theorem dX0_dayOfWeek_9 : decode cX0_dayOfWeek 9 = .ok (.iadd, 1) := dk_96 (dq_lk dX0_dayOfWeek_w0 (r := 9) (x := 96) rfl)
theorem dX0_dayOfWeek_10 : decode cX0_dayOfWeek 10 = .ok (.ireturn, 1) := dk_172 (dq_lk dX0_dayOfWeek_w0 (r := 10) (x := 172) rfl)
theorem dX2_compared_w0 : (cX2_compared.data.toList.drop 0).take 64 = [30, 32, 148, 156, 0, 7, 2, 167, 0, 14, 30, 32, 148, 158, 0, 7, 4, 167, 0, 4, 3, 172] := by decide +kernel
theorem dX2_compared_0 : decode cX2_compared 0 = .ok (.lload_n 0, 1) := dk_30 (dq_lk dX2_compared_w0 (r := 0) (x := 30) rfl)
theorem dX2_compared_1 : decode cX2_compared 1 = .ok (.lload_n 2, 1) := dk_32 (dq_lk dX2_compared_w0 (r := 1) (x := 32) rfl)
theorem dX2_compared_2 : decode cX2_compared 2 = .ok (.lcmp, 1) := dk_148 (dq_lk dX2_compared_w0 (r := 2) (x := 148) rfl)
theorem dX2_compared_3 : decode cX2_compared 3 = .ok (.ifCond .ge 7, 3) := dk_156 (dq_lk dX2_compared_w0 (r := 3) (x := 156) rfl) (dq_lk dX2_compared_w0 (r := 4) (x := 0) rfl) (dq_lk dX2_compared_w0 (r := 5) (x := 7) rfl) (by decide +kernel)
theorem dX2_compared_6 : decode cX2_compared 6 = .ok (.iconst (-1), 1) := dk_2 (dq_lk dX2_compared_w0 (r := 6) (x := 2) rfl)
theorem dX2_compared_7 : decode cX2_compared 7 = .ok (.goto 14, 3) := dk_167 (dq_lk dX2_compared_w0 (r := 7) (x := 167) rfl) (dq_lk dX2_compared_w0 (r := 8) (x := 0) rfl) (dq_lk dX2_compared_w0 (r := 9) (x := 14) rfl) (by decide +kernel)
theorem dX2_compared_10 : decode cX2_compared 10 = .ok (.lload_n 0, 1) := dk_30 (dq_lk dX2_compared_w0 (r := 10) (x := 30) rfl)
theorem dX2_compared_11 : decode cX2_compared 11 = .ok (.lload_n 2, 1) := dk_32 (dq_lk dX2_compared_w0 (r := 11) (x := 32) rfl)
theorem dX2_compared_12 : decode cX2_compared 12 = .ok (.lcmp, 1) := dk_148 (dq_lk dX2_compared_w0 (r := 12) (x := 148) rfl)
theorem dX2_compared_13 : decode cX2_compared 13 = .ok (.ifCond .le 7, 3) := dk_158 (dq_lk dX2_compared_w0 (r := 13) (x := 158) rfl) (dq_lk dX2_compared_w0 (r := 14) (x := 0) rfl) (dq_lk dX2_compared_w0 (r := 15) (x := 7) rfl) (by decide +kernel)
theorem dX2_compared_16 : decode cX2_compared 16 = .ok (.iconst 1, 1) := dk_4 (dq_lk dX2_compared_w0 (r := 16) (x := 4) rfl)
theorem dX2_compared_17 : decode cX2_compared 17 = .ok (.goto 4, 3) := dk_167 (dq_lk dX2_compared_w0 (r := 17) (x := 167) rfl) (dq_lk dX2_compared_w0 (r := 18) (x := 0) rfl) (dq_lk dX2_compared_w0 (r := 19) (x := 4) rfl) (by decide +kernel)
theorem dX2_compared_20 : decode cX2_compared 20 = .ok (.iconst 0, 1) := dk_3 (dq_lk dX2_compared_w0 (r := 20) (x := 3) rfl)
theorem dX2_compared_21 : decode cX2_compared 21 = .ok (.ireturn, 1) := dk_172 (dq_lk dX2_compared_w0 (r := 21) (x := 172) rfl)
theorem dX2_signed_w0 : (cX2_signed.data.toList.drop 0).take 64 = [27, 153, 0, 9, 26, 133, 117, 167, 0, 5, 26, 133, 173] := by decide +kernel
theorem dX2_signed_0 : decode cX2_signed 0 = .ok (.iload_n 1, 1) := dk_27 (dq_lk dX2_signed_w0 (r := 0) (x := 27) rfl)
theorem dX2_signed_1 : decode cX2_signed 1 = .ok (.ifCond .eq 9, 3) := dk_153 (dq_lk dX2_signed_w0 (r := 1) (x := 153) rfl) (dq_lk dX2_signed_w0 (r := 2) (x := 0) rfl) (dq_lk dX2_signed_w0 (r := 3) (x := 9) rfl) (by decide +kernel)
theorem dX2_signed_4 : decode cX2_signed 4 = .ok (.iload_n 0, 1) := dk_26 (dq_lk dX2_signed_w0 (r := 4) (x := 26) rfl)
theorem dX2_signed_5 : decode cX2_signed 5 = .ok (.i2l, 1) := dk_133 (dq_lk dX2_signed_w0 (r := 5) (x := 133) rfl)
theorem dX2_signed_6 : decode cX2_signed 6 = .ok (.lneg, 1) := dk_117 (dq_lk dX2_signed_w0 (r := 6) (x := 117) rfl)
theorem dX2_signed_7 : decode cX2_signed 7 = .ok (.goto 5, 3) := dk_167 (dq_lk dX2_signed_w0 (r := 7) (x := 167) rfl) (dq_lk dX2_signed_w0 (r := 8) (x := 0) rfl) (dq_lk dX2_signed_w0 (r := 9) (x := 5) rfl) (by decide +kernel)
theorem dX2_signed_10 : decode cX2_signed 10 = .ok (.iload_n 0, 1) := dk_26 (dq_lk dX2_signed_w0 (r := 10) (x := 26) rfl)
theorem dX2_signed_11 : decode cX2_signed 11 = .ok (.i2l, 1) := dk_133 (dq_lk dX2_signed_w0 (r := 11) (x := 133) rfl)
theorem dX2_signed_12 : decode cX2_signed 12 = .ok (.lreturn, 1) := dk_173 (dq_lk dX2_signed_w0 (r := 12) (x := 173) rfl)
theorem dX2_secondOf_w0 : (cX2_secondOf.data.toList.drop 0).take 64 = [30, 20, 0, 72, 184, 0, 100, 173] := by decide +kernel
theorem dX2_secondOf_0 : decode cX2_secondOf 0 = .ok (.lload_n 0, 1) := dk_30 (dq_lk dX2_secondOf_w0 (r := 0) (x := 30) rfl)
theorem dX2_secondOf_1 : decode cX2_secondOf 1 = .ok (.ldc2_w 72, 3) := dk_20 (dq_lk dX2_secondOf_w0 (r := 1) (x := 20) rfl) (dq_lk dX2_secondOf_w0 (r := 2) (x := 0) rfl) (dq_lk dX2_secondOf_w0 (r := 3) (x := 72) rfl)
theorem dX2_secondOf_4 : decode cX2_secondOf 4 = .ok (.invokestatic 100, 3) := dk_184 (dq_lk dX2_secondOf_w0 (r := 4) (x := 184) rfl) (dq_lk dX2_secondOf_w0 (r := 5) (x := 0) rfl) (dq_lk dX2_secondOf_w0 (r := 6) (x := 100) rfl)
theorem dX2_secondOf_7 : decode cX2_secondOf 7 = .ok (.lreturn, 1) := dk_173 (dq_lk dX2_secondOf_w0 (r := 7) (x := 173) rfl)
theorem dX2_nanoOf_w0 : (cX2_nanoOf.data.toList.drop 0).take 64 = [30, 20, 0, 72, 184, 1, 21, 136, 172] := by decide +kernel
theorem dX2_nanoOf_0 : decode cX2_nanoOf 0 = .ok (.lload_n 0, 1) := dk_30 (dq_lk dX2_nanoOf_w0 (r := 0) (x := 30) rfl)
theorem dX2_nanoOf_1 : decode cX2_nanoOf 1 = .ok (.ldc2_w 72, 3) := dk_20 (dq_lk dX2_nanoOf_w0 (r := 1) (x := 20) rfl) (dq_lk dX2_nanoOf_w0 (r := 2) (x := 0) rfl) (dq_lk dX2_nanoOf_w0 (r := 3) (x := 72) rfl)
theorem dX2_nanoOf_4 : decode cX2_nanoOf 4 = .ok (.invokestatic 277, 3) := dk_184 (dq_lk dX2_nanoOf_w0 (r := 4) (x := 184) rfl) (dq_lk dX2_nanoOf_w0 (r := 5) (x := 1) rfl) (dq_lk dX2_nanoOf_w0 (r := 6) (x := 21) rfl)
theorem dX2_nanoOf_7 : decode cX2_nanoOf 7 = .ok (.l2i, 1) := dk_136 (dq_lk dX2_nanoOf_w0 (r := 7) (x := 136) rfl)
theorem dX2_nanoOf_8 : decode cX2_nanoOf 8 = .ok (.ireturn, 1) := dk_172 (dq_lk dX2_nanoOf_w0 (r := 8) (x := 172) rfl)
theorem dX2_added_w0 : (cX2_added.data.toList.drop 0).take 64 = [30, 20, 1, 118, 105, 32, 97, 173] := by decide +kernel
theorem dX2_added_0 : decode cX2_added 0 = .ok (.lload_n 0, 1) := dk_30 (dq_lk dX2_added_w0 (r := 0) (x := 30) rfl)
theorem dX2_added_1 : decode cX2_added 1 = .ok (.ldc2_w 374, 3) := dk_20 (dq_lk dX2_added_w0 (r := 1) (x := 20) rfl) (dq_lk dX2_added_w0 (r := 2) (x := 1) rfl) (dq_lk dX2_added_w0 (r := 3) (x := 118) rfl)
theorem dX2_added_4 : decode cX2_added 4 = .ok (.lmul, 1) := dk_105 (dq_lk dX2_added_w0 (r := 4) (x := 105) rfl)
theorem dX2_added_5 : decode cX2_added 5 = .ok (.lload_n 2, 1) := dk_32 (dq_lk dX2_added_w0 (r := 5) (x := 32) rfl)
theorem dX2_added_6 : decode cX2_added 6 = .ok (.ladd, 1) := dk_97 (dq_lk dX2_added_w0 (r := 6) (x := 97) rfl)
theorem dX2_added_7 : decode cX2_added 7 = .ok (.lreturn, 1) := dk_173 (dq_lk dX2_added_w0 (r := 7) (x := 173) rfl)
theorem dX1_tell_w0 : (cX1_tell.data.toList.drop 0).take 64 = [42, 31, 181, 0, 9, 42, 29, 181, 0, 15, 42, 21, 4, 181, 0, 19, 177] := by decide +kernel
theorem dX1_tell_0 : decode cX1_tell 0 = .ok (.aload_n 0, 1) := dk_42 (dq_lk dX1_tell_w0 (r := 0) (x := 42) rfl)
theorem dX1_tell_1 : decode cX1_tell 1 = .ok (.lload_n 1, 1) := dk_31 (dq_lk dX1_tell_w0 (r := 1) (x := 31) rfl)
theorem dX1_tell_2 : decode cX1_tell 2 = .ok (.putfield 9, 3) := dk_181 (dq_lk dX1_tell_w0 (r := 2) (x := 181) rfl) (dq_lk dX1_tell_w0 (r := 3) (x := 0) rfl) (dq_lk dX1_tell_w0 (r := 4) (x := 9) rfl)
theorem dX1_tell_5 : decode cX1_tell 5 = .ok (.aload_n 0, 1) := dk_42 (dq_lk dX1_tell_w0 (r := 5) (x := 42) rfl)
theorem dX1_tell_6 : decode cX1_tell 6 = .ok (.iload_n 3, 1) := dk_29 (dq_lk dX1_tell_w0 (r := 6) (x := 29) rfl)
theorem dX1_tell_7 : decode cX1_tell 7 = .ok (.putfield 15, 3) := dk_181 (dq_lk dX1_tell_w0 (r := 7) (x := 181) rfl) (dq_lk dX1_tell_w0 (r := 8) (x := 0) rfl) (dq_lk dX1_tell_w0 (r := 9) (x := 15) rfl)
theorem dX1_tell_10 : decode cX1_tell 10 = .ok (.aload_n 0, 1) := dk_42 (dq_lk dX1_tell_w0 (r := 10) (x := 42) rfl)
theorem dX1_tell_11 : decode cX1_tell 11 = .ok (.iload 4, 2) := dk_21 (dq_lk dX1_tell_w0 (r := 11) (x := 21) rfl) (dq_lk dX1_tell_w0 (r := 12) (x := 4) rfl)
theorem dX1_tell_13 : decode cX1_tell 13 = .ok (.putfield 19, 3) := dk_181 (dq_lk dX1_tell_w0 (r := 13) (x := 181) rfl) (dq_lk dX1_tell_w0 (r := 14) (x := 0) rfl) (dq_lk dX1_tell_w0 (r := 15) (x := 19) rfl)
theorem dX1_tell_16 : decode cX1_tell 16 = .ok (.return_, 1) := dk_177 (dq_lk dX1_tell_w0 (r := 16) (x := 177) rfl)
theorem c_X1_tell (tys : List (ClassId × FieldType)) (ws : va_W) (qT aT : Nat) (sT : Int64) (nT oT : Int32) (hT : ws[qT]? = some (aT, .inr (2, [.long sT, .int nT, .int oT]))) (p0 : Int64) (p1 p2 : Int32) : mCt tys yX1_tell cX1_tell 5 none ⟨0, 0, 0, 0⟩ [.ref aT, .long p0, .int p1, .int p2] ws (fun v ws' => v = none ∧ ws' = ws.set qT (aT, .inr (2, [.long p0, .int p1, .int p2]))) mNo := by
  refine mCt.of (by decide +kernel) (Nat.le_of_ble_eq_true rfl) (fun X hX hE => ?_)
  have hX : mOK X RX1 cX1_tell 5 ⟨0, 0, 0, 0⟩ [] tys := hX
  have hq : qT < ws.length := (List.getElem?_eq_some_iff.mp hT).1
  refine r_aload_n hX dX1_tell_0 rfl rfl ?_
  refine r_lload_n hX dX1_tell_1 rfl rfl ?_
  refine r_put hX kf_X1_9 qT hT rfl rfl rfl (Nat.le_of_ble_eq_true rfl) dX1_tell_2 ?_
  refine r_aload_n hX dX1_tell_5 rfl rfl ?_
  refine r_iload_n hX dX1_tell_6 rfl rfl ?_
  refine r_put hX kf_X1_15 qT (List.getElem?_set_self hq) rfl rfl rfl (Nat.le_of_ble_eq_true rfl) dX1_tell_7 ?_
  rw [List.set_set]
  refine r_aload_n hX dX1_tell_10 rfl rfl ?_
  refine r_iload hX dX1_tell_11 rfl ?_
  refine r_put hX kf_X1_19 qT (List.getElem?_set_self hq) rfl rfl rfl (Nat.le_of_ble_eq_true rfl) dX1_tell_13 ?_
  rw [List.set_set]
  exact r_vret hX hE dX1_tell_16 (Nat.le_of_ble_eq_true rfl) (Nat.le_of_ble_eq_true rfl) ⟨rfl, rfl⟩
theorem dX1_momentSecond_w0 : (cX1_momentSecond.data.toList.drop 0).take 64 = [42, 180, 0, 9, 42, 180, 0, 19, 133, 101, 173] := by decide +kernel
theorem dX1_momentSecond_0 : decode cX1_momentSecond 0 = .ok (.aload_n 0, 1) := dk_42 (dq_lk dX1_momentSecond_w0 (r := 0) (x := 42) rfl)
theorem dX1_momentSecond_1 : decode cX1_momentSecond 1 = .ok (.getfield 9, 3) := dk_180 (dq_lk dX1_momentSecond_w0 (r := 1) (x := 180) rfl) (dq_lk dX1_momentSecond_w0 (r := 2) (x := 0) rfl) (dq_lk dX1_momentSecond_w0 (r := 3) (x := 9) rfl)
theorem dX1_momentSecond_4 : decode cX1_momentSecond 4 = .ok (.aload_n 0, 1) := dk_42 (dq_lk dX1_momentSecond_w0 (r := 4) (x := 42) rfl)
theorem dX1_momentSecond_5 : decode cX1_momentSecond 5 = .ok (.getfield 19, 3) := dk_180 (dq_lk dX1_momentSecond_w0 (r := 5) (x := 180) rfl) (dq_lk dX1_momentSecond_w0 (r := 6) (x := 0) rfl) (dq_lk dX1_momentSecond_w0 (r := 7) (x := 19) rfl)
theorem dX1_momentSecond_8 : decode cX1_momentSecond 8 = .ok (.i2l, 1) := dk_133 (dq_lk dX1_momentSecond_w0 (r := 8) (x := 133) rfl)
theorem dX1_momentSecond_9 : decode cX1_momentSecond 9 = .ok (.lsub, 1) := dk_101 (dq_lk dX1_momentSecond_w0 (r := 9) (x := 101) rfl)
theorem dX1_momentSecond_10 : decode cX1_momentSecond 10 = .ok (.lreturn, 1) := dk_173 (dq_lk dX1_momentSecond_w0 (r := 10) (x := 173) rfl)
theorem dX1_day_w0 : (cX1_day.data.toList.drop 0).take 64 = [42, 180, 0, 9, 20, 0, 22, 184, 0, 24, 136, 172] := by decide +kernel
theorem dX1_day_0 : decode cX1_day 0 = .ok (.aload_n 0, 1) := dk_42 (dq_lk dX1_day_w0 (r := 0) (x := 42) rfl)
theorem dX1_day_1 : decode cX1_day 1 = .ok (.getfield 9, 3) := dk_180 (dq_lk dX1_day_w0 (r := 1) (x := 180) rfl) (dq_lk dX1_day_w0 (r := 2) (x := 0) rfl) (dq_lk dX1_day_w0 (r := 3) (x := 9) rfl)
theorem dX1_day_4 : decode cX1_day 4 = .ok (.ldc2_w 22, 3) := dk_20 (dq_lk dX1_day_w0 (r := 4) (x := 20) rfl) (dq_lk dX1_day_w0 (r := 5) (x := 0) rfl) (dq_lk dX1_day_w0 (r := 6) (x := 22) rfl)
theorem dX1_day_7 : decode cX1_day 7 = .ok (.invokestatic 24, 3) := dk_184 (dq_lk dX1_day_w0 (r := 7) (x := 184) rfl) (dq_lk dX1_day_w0 (r := 8) (x := 0) rfl) (dq_lk dX1_day_w0 (r := 9) (x := 24) rfl)
theorem dX1_day_10 : decode cX1_day 10 = .ok (.l2i, 1) := dk_136 (dq_lk dX1_day_w0 (r := 10) (x := 136) rfl)
theorem dX1_day_11 : decode cX1_day 11 = .ok (.ireturn, 1) := dk_172 (dq_lk dX1_day_w0 (r := 11) (x := 172) rfl)
theorem dX1_beginOfDay_w0 : (cX1_beginOfDay.data.toList.drop 0).take 64 = [42, 182, 0, 30, 133, 20, 0, 22, 105, 173] := by decide +kernel
theorem dX1_beginOfDay_0 : decode cX1_beginOfDay 0 = .ok (.aload_n 0, 1) := dk_42 (dq_lk dX1_beginOfDay_w0 (r := 0) (x := 42) rfl)
theorem dX1_beginOfDay_1 : decode cX1_beginOfDay 1 = .ok (.invokevirtual 30, 3) := dk_182 (dq_lk dX1_beginOfDay_w0 (r := 1) (x := 182) rfl) (dq_lk dX1_beginOfDay_w0 (r := 2) (x := 0) rfl) (dq_lk dX1_beginOfDay_w0 (r := 3) (x := 30) rfl)
theorem dX1_beginOfDay_4 : decode cX1_beginOfDay 4 = .ok (.i2l, 1) := dk_133 (dq_lk dX1_beginOfDay_w0 (r := 4) (x := 133) rfl)
theorem dX1_beginOfDay_5 : decode cX1_beginOfDay 5 = .ok (.ldc2_w 22, 3) := dk_20 (dq_lk dX1_beginOfDay_w0 (r := 5) (x := 20) rfl) (dq_lk dX1_beginOfDay_w0 (r := 6) (x := 0) rfl) (dq_lk dX1_beginOfDay_w0 (r := 7) (x := 22) rfl)
theorem dX1_beginOfDay_8 : decode cX1_beginOfDay 8 = .ok (.lmul, 1) := dk_105 (dq_lk dX1_beginOfDay_w0 (r := 8) (x := 105) rfl)
theorem dX1_beginOfDay_9 : decode cX1_beginOfDay 9 = .ok (.lreturn, 1) := dk_173 (dq_lk dX1_beginOfDay_w0 (r := 9) (x := 173) rfl)
theorem dX1_secondOfDay_w0 : (cX1_secondOfDay.data.toList.drop 0).take 64 = [42, 180, 0, 9, 20, 0, 22, 184, 0, 45, 136, 172] := by decide +kernel
theorem dX1_secondOfDay_0 : decode cX1_secondOfDay 0 = .ok (.aload_n 0, 1) := dk_42 (dq_lk dX1_secondOfDay_w0 (r := 0) (x := 42) rfl)
theorem dX1_secondOfDay_1 : decode cX1_secondOfDay 1 = .ok (.getfield 9, 3) := dk_180 (dq_lk dX1_secondOfDay_w0 (r := 1) (x := 180) rfl) (dq_lk dX1_secondOfDay_w0 (r := 2) (x := 0) rfl) (dq_lk dX1_secondOfDay_w0 (r := 3) (x := 9) rfl)
theorem dX1_secondOfDay_4 : decode cX1_secondOfDay 4 = .ok (.ldc2_w 22, 3) := dk_20 (dq_lk dX1_secondOfDay_w0 (r := 4) (x := 20) rfl) (dq_lk dX1_secondOfDay_w0 (r := 5) (x := 0) rfl) (dq_lk dX1_secondOfDay_w0 (r := 6) (x := 22) rfl)
theorem dX1_secondOfDay_7 : decode cX1_secondOfDay 7 = .ok (.invokestatic 45, 3) := dk_184 (dq_lk dX1_secondOfDay_w0 (r := 7) (x := 184) rfl) (dq_lk dX1_secondOfDay_w0 (r := 8) (x := 0) rfl) (dq_lk dX1_secondOfDay_w0 (r := 9) (x := 45) rfl)
theorem dX1_secondOfDay_10 : decode cX1_secondOfDay 10 = .ok (.l2i, 1) := dk_136 (dq_lk dX1_secondOfDay_w0 (r := 10) (x := 136) rfl)
theorem dX1_secondOfDay_11 : decode cX1_secondOfDay 11 = .ok (.ireturn, 1) := dk_172 (dq_lk dX1_secondOfDay_w0 (r := 11) (x := 172) rfl)
theorem dX1_hour_w0 : (cX1_hour.data.toList.drop 0).take 64 = [42, 182, 0, 48, 17, 14, 16, 108, 172] := by decide +kernel
theorem dX1_hour_0 : decode cX1_hour 0 = .ok (.aload_n 0, 1) := dk_42 (dq_lk dX1_hour_w0 (r := 0) (x := 42) rfl)
theorem dX1_hour_1 : decode cX1_hour 1 = .ok (.invokevirtual 48, 3) := dk_182 (dq_lk dX1_hour_w0 (r := 1) (x := 182) rfl) (dq_lk dX1_hour_w0 (r := 2) (x := 0) rfl) (dq_lk dX1_hour_w0 (r := 3) (x := 48) rfl)
theorem dX1_hour_4 : decode cX1_hour 4 = .ok (.sipush 3600, 3) := dk_17 (dq_lk dX1_hour_w0 (r := 4) (x := 17) rfl) (dq_lk dX1_hour_w0 (r := 5) (x := 14) rfl) (dq_lk dX1_hour_w0 (r := 6) (x := 16) rfl) (by decide +kernel)
theorem dX1_hour_7 : decode cX1_hour 7 = .ok (.idiv, 1) := dk_108 (dq_lk dX1_hour_w0 (r := 7) (x := 108) rfl)
theorem dX1_hour_8 : decode cX1_hour 8 = .ok (.ireturn, 1) := dk_172 (dq_lk dX1_hour_w0 (r := 8) (x := 172) rfl)
theorem dX1_minute_w0 : (cX1_minute.data.toList.drop 0).take 64 = [42, 182, 0, 48, 16, 60, 108, 16, 60, 112, 172] := by decide +kernel
theorem dX1_minute_0 : decode cX1_minute 0 = .ok (.aload_n 0, 1) := dk_42 (dq_lk dX1_minute_w0 (r := 0) (x := 42) rfl)
theorem dX1_minute_1 : decode cX1_minute 1 = .ok (.invokevirtual 48, 3) := dk_182 (dq_lk dX1_minute_w0 (r := 1) (x := 182) rfl) (dq_lk dX1_minute_w0 (r := 2) (x := 0) rfl) (dq_lk dX1_minute_w0 (r := 3) (x := 48) rfl)
theorem dX1_minute_4 : decode cX1_minute 4 = .ok (.bipush 60, 2) := dk_16 (dq_lk dX1_minute_w0 (r := 4) (x := 16) rfl) (dq_lk dX1_minute_w0 (r := 5) (x := 60) rfl) (by decide +kernel)
theorem dX1_minute_6 : decode cX1_minute 6 = .ok (.idiv, 1) := dk_108 (dq_lk dX1_minute_w0 (r := 6) (x := 108) rfl)
theorem dX1_minute_7 : decode cX1_minute 7 = .ok (.bipush 60, 2) := dk_16 (dq_lk dX1_minute_w0 (r := 7) (x := 16) rfl) (dq_lk dX1_minute_w0 (r := 8) (x := 60) rfl) (by decide +kernel)
theorem dX1_minute_9 : decode cX1_minute 9 = .ok (.irem, 1) := dk_112 (dq_lk dX1_minute_w0 (r := 9) (x := 112) rfl)
theorem dX1_minute_10 : decode cX1_minute 10 = .ok (.ireturn, 1) := dk_172 (dq_lk dX1_minute_w0 (r := 10) (x := 172) rfl)
theorem dX1_secondOfMinute_w0 : (cX1_secondOfMinute.data.toList.drop 0).take 64 = [42, 182, 0, 48, 16, 60, 112, 172] := by decide +kernel
theorem dX1_secondOfMinute_0 : decode cX1_secondOfMinute 0 = .ok (.aload_n 0, 1) := dk_42 (dq_lk dX1_secondOfMinute_w0 (r := 0) (x := 42) rfl)
theorem dX1_secondOfMinute_1 : decode cX1_secondOfMinute 1 = .ok (.invokevirtual 48, 3) := dk_182 (dq_lk dX1_secondOfMinute_w0 (r := 1) (x := 182) rfl) (dq_lk dX1_secondOfMinute_w0 (r := 2) (x := 0) rfl) (dq_lk dX1_secondOfMinute_w0 (r := 3) (x := 48) rfl)
theorem dX1_secondOfMinute_4 : decode cX1_secondOfMinute 4 = .ok (.bipush 60, 2) := dk_16 (dq_lk dX1_secondOfMinute_w0 (r := 4) (x := 16) rfl) (dq_lk dX1_secondOfMinute_w0 (r := 5) (x := 60) rfl) (by decide +kernel)
theorem dX1_secondOfMinute_6 : decode cX1_secondOfMinute 6 = .ok (.irem, 1) := dk_112 (dq_lk dX1_secondOfMinute_w0 (r := 6) (x := 112) rfl)
theorem dX1_secondOfMinute_7 : decode cX1_secondOfMinute 7 = .ok (.ireturn, 1) := dk_172 (dq_lk dX1_secondOfMinute_w0 (r := 7) (x := 172) rfl)
theorem dX1_months_w0 : (cX1_months.data.toList.drop 0).take 64 = [42, 182, 0, 30, 184, 0, 34, 133, 20, 0, 40, 105, 42, 182, 0, 30, 184, 0, 42, 133, 97, 10, 101, 173] := by decide +kernel
theorem dX1_months_0 : decode cX1_months 0 = .ok (.aload_n 0, 1) := dk_42 (dq_lk dX1_months_w0 (r := 0) (x := 42) rfl)
theorem dX1_months_1 : decode cX1_months 1 = .ok (.invokevirtual 30, 3) := dk_182 (dq_lk dX1_months_w0 (r := 1) (x := 182) rfl) (dq_lk dX1_months_w0 (r := 2) (x := 0) rfl) (dq_lk dX1_months_w0 (r := 3) (x := 30) rfl)
theorem dX1_months_4 : decode cX1_months 4 = .ok (.invokestatic 34, 3) := dk_184 (dq_lk dX1_months_w0 (r := 4) (x := 184) rfl) (dq_lk dX1_months_w0 (r := 5) (x := 0) rfl) (dq_lk dX1_months_w0 (r := 6) (x := 34) rfl)
theorem dX1_months_7 : decode cX1_months 7 = .ok (.i2l, 1) := dk_133 (dq_lk dX1_months_w0 (r := 7) (x := 133) rfl)
theorem dX1_months_8 : decode cX1_months 8 = .ok (.ldc2_w 40, 3) := dk_20 (dq_lk dX1_months_w0 (r := 8) (x := 20) rfl) (dq_lk dX1_months_w0 (r := 9) (x := 0) rfl) (dq_lk dX1_months_w0 (r := 10) (x := 40) rfl)
theorem dX1_months_11 : decode cX1_months 11 = .ok (.lmul, 1) := dk_105 (dq_lk dX1_months_w0 (r := 11) (x := 105) rfl)
theorem dX1_months_12 : decode cX1_months 12 = .ok (.aload_n 0, 1) := dk_42 (dq_lk dX1_months_w0 (r := 12) (x := 42) rfl)
theorem dX1_months_13 : decode cX1_months 13 = .ok (.invokevirtual 30, 3) := dk_182 (dq_lk dX1_months_w0 (r := 13) (x := 182) rfl) (dq_lk dX1_months_w0 (r := 14) (x := 0) rfl) (dq_lk dX1_months_w0 (r := 15) (x := 30) rfl)
theorem dX1_months_16 : decode cX1_months 16 = .ok (.invokestatic 42, 3) := dk_184 (dq_lk dX1_months_w0 (r := 16) (x := 184) rfl) (dq_lk dX1_months_w0 (r := 17) (x := 0) rfl) (dq_lk dX1_months_w0 (r := 18) (x := 42) rfl)
theorem dX1_months_19 : decode cX1_months 19 = .ok (.i2l, 1) := dk_133 (dq_lk dX1_months_w0 (r := 19) (x := 133) rfl)
theorem dX1_months_20 : decode cX1_months 20 = .ok (.ladd, 1) := dk_97 (dq_lk dX1_months_w0 (r := 20) (x := 97) rfl)
theorem dX1_months_21 : decode cX1_months 21 = .ok (.lconst 1, 1) := dk_10 (dq_lk dX1_months_w0 (r := 21) (x := 10) rfl)
theorem dX1_months_22 : decode cX1_months 22 = .ok (.lsub, 1) := dk_101 (dq_lk dX1_months_w0 (r := 22) (x := 101) rfl)
theorem dX1_months_23 : decode cX1_months 23 = .ok (.lreturn, 1) := dk_173 (dq_lk dX1_months_w0 (r := 23) (x := 173) rfl)
theorem dX1_momentOrder_w0 : (cX1_momentOrder.data.toList.drop 0).take 64 = [42, 182, 0, 55, 43, 182, 0, 55, 184, 0, 59, 61, 28, 153, 0, 7, 28, 167, 0, 16, 42, 180, 0, 15, 133, 43, 180, 0, 15, 133, 184, 0, 59, 172] := by decide +kernel
theorem dX1_momentOrder_0 : decode cX1_momentOrder 0 = .ok (.aload_n 0, 1) := dk_42 (dq_lk dX1_momentOrder_w0 (r := 0) (x := 42) rfl)
theorem dX1_momentOrder_1 : decode cX1_momentOrder 1 = .ok (.invokevirtual 55, 3) := dk_182 (dq_lk dX1_momentOrder_w0 (r := 1) (x := 182) rfl) (dq_lk dX1_momentOrder_w0 (r := 2) (x := 0) rfl) (dq_lk dX1_momentOrder_w0 (r := 3) (x := 55) rfl)
theorem dX1_momentOrder_4 : decode cX1_momentOrder 4 = .ok (.aload_n 1, 1) := dk_43 (dq_lk dX1_momentOrder_w0 (r := 4) (x := 43) rfl)
theorem dX1_momentOrder_5 : decode cX1_momentOrder 5 = .ok (.invokevirtual 55, 3) := dk_182 (dq_lk dX1_momentOrder_w0 (r := 5) (x := 182) rfl) (dq_lk dX1_momentOrder_w0 (r := 6) (x := 0) rfl) (dq_lk dX1_momentOrder_w0 (r := 7) (x := 55) rfl)
theorem dX1_momentOrder_8 : decode cX1_momentOrder 8 = .ok (.invokestatic 59, 3) := dk_184 (dq_lk dX1_momentOrder_w0 (r := 8) (x := 184) rfl) (dq_lk dX1_momentOrder_w0 (r := 9) (x := 0) rfl) (dq_lk dX1_momentOrder_w0 (r := 10) (x := 59) rfl)
theorem dX1_momentOrder_11 : decode cX1_momentOrder 11 = .ok (.istore_n 2, 1) := dk_61 (dq_lk dX1_momentOrder_w0 (r := 11) (x := 61) rfl)
theorem dX1_momentOrder_12 : decode cX1_momentOrder 12 = .ok (.iload_n 2, 1) := dk_28 (dq_lk dX1_momentOrder_w0 (r := 12) (x := 28) rfl)
theorem dX1_momentOrder_13 : decode cX1_momentOrder 13 = .ok (.ifCond .eq 7, 3) := dk_153 (dq_lk dX1_momentOrder_w0 (r := 13) (x := 153) rfl) (dq_lk dX1_momentOrder_w0 (r := 14) (x := 0) rfl) (dq_lk dX1_momentOrder_w0 (r := 15) (x := 7) rfl) (by decide +kernel)
theorem dX1_momentOrder_16 : decode cX1_momentOrder 16 = .ok (.iload_n 2, 1) := dk_28 (dq_lk dX1_momentOrder_w0 (r := 16) (x := 28) rfl)
theorem dX1_momentOrder_17 : decode cX1_momentOrder 17 = .ok (.goto 16, 3) := dk_167 (dq_lk dX1_momentOrder_w0 (r := 17) (x := 167) rfl) (dq_lk dX1_momentOrder_w0 (r := 18) (x := 0) rfl) (dq_lk dX1_momentOrder_w0 (r := 19) (x := 16) rfl) (by decide +kernel)
theorem dX1_momentOrder_20 : decode cX1_momentOrder 20 = .ok (.aload_n 0, 1) := dk_42 (dq_lk dX1_momentOrder_w0 (r := 20) (x := 42) rfl)
theorem dX1_momentOrder_21 : decode cX1_momentOrder 21 = .ok (.getfield 15, 3) := dk_180 (dq_lk dX1_momentOrder_w0 (r := 21) (x := 180) rfl) (dq_lk dX1_momentOrder_w0 (r := 22) (x := 0) rfl) (dq_lk dX1_momentOrder_w0 (r := 23) (x := 15) rfl)
theorem dX1_momentOrder_24 : decode cX1_momentOrder 24 = .ok (.i2l, 1) := dk_133 (dq_lk dX1_momentOrder_w0 (r := 24) (x := 133) rfl)
theorem dX1_momentOrder_25 : decode cX1_momentOrder 25 = .ok (.aload_n 1, 1) := dk_43 (dq_lk dX1_momentOrder_w0 (r := 25) (x := 43) rfl)
theorem dX1_momentOrder_26 : decode cX1_momentOrder 26 = .ok (.getfield 15, 3) := dk_180 (dq_lk dX1_momentOrder_w0 (r := 26) (x := 180) rfl) (dq_lk dX1_momentOrder_w0 (r := 27) (x := 0) rfl) (dq_lk dX1_momentOrder_w0 (r := 28) (x := 15) rfl)
theorem dX1_momentOrder_29 : decode cX1_momentOrder 29 = .ok (.i2l, 1) := dk_133 (dq_lk dX1_momentOrder_w0 (r := 29) (x := 133) rfl)
theorem dX1_momentOrder_30 : decode cX1_momentOrder 30 = .ok (.invokestatic 59, 3) := dk_184 (dq_lk dX1_momentOrder_w0 (r := 30) (x := 184) rfl) (dq_lk dX1_momentOrder_w0 (r := 31) (x := 0) rfl) (dq_lk dX1_momentOrder_w0 (r := 32) (x := 59) rfl)
theorem dX1_momentOrder_33 : decode cX1_momentOrder 33 = .ok (.ireturn, 1) := dk_172 (dq_lk dX1_momentOrder_w0 (r := 33) (x := 172) rfl)
theorem dX1_isAhead_w0 : (cX1_isAhead.data.toList.drop 0).take 64 = [42, 43, 182, 0, 51, 156, 0, 7, 4, 167, 0, 4, 3, 172] := by decide +kernel
theorem dX1_isAhead_0 : decode cX1_isAhead 0 = .ok (.aload_n 0, 1) := dk_42 (dq_lk dX1_isAhead_w0 (r := 0) (x := 42) rfl)
theorem dX1_isAhead_1 : decode cX1_isAhead 1 = .ok (.aload_n 1, 1) := dk_43 (dq_lk dX1_isAhead_w0 (r := 1) (x := 43) rfl)
theorem dX1_isAhead_2 : decode cX1_isAhead 2 = .ok (.invokevirtual 51, 3) := dk_182 (dq_lk dX1_isAhead_w0 (r := 2) (x := 182) rfl) (dq_lk dX1_isAhead_w0 (r := 3) (x := 0) rfl) (dq_lk dX1_isAhead_w0 (r := 4) (x := 51) rfl)
theorem dX1_isAhead_5 : decode cX1_isAhead 5 = .ok (.ifCond .ge 7, 3) := dk_156 (dq_lk dX1_isAhead_w0 (r := 5) (x := 156) rfl) (dq_lk dX1_isAhead_w0 (r := 6) (x := 0) rfl) (dq_lk dX1_isAhead_w0 (r := 7) (x := 7) rfl) (by decide +kernel)
theorem dX1_isAhead_8 : decode cX1_isAhead 8 = .ok (.iconst 1, 1) := dk_4 (dq_lk dX1_isAhead_w0 (r := 8) (x := 4) rfl)
theorem dX1_isAhead_9 : decode cX1_isAhead 9 = .ok (.goto 4, 3) := dk_167 (dq_lk dX1_isAhead_w0 (r := 9) (x := 167) rfl) (dq_lk dX1_isAhead_w0 (r := 10) (x := 0) rfl) (dq_lk dX1_isAhead_w0 (r := 11) (x := 4) rfl) (by decide +kernel)
theorem dX1_isAhead_12 : decode cX1_isAhead 12 = .ok (.iconst 0, 1) := dk_3 (dq_lk dX1_isAhead_w0 (r := 12) (x := 3) rfl)
theorem dX1_isAhead_13 : decode cX1_isAhead 13 = .ok (.ireturn, 1) := dk_172 (dq_lk dX1_isAhead_w0 (r := 13) (x := 172) rfl)
theorem dX1_isAlike_w0 : (cX1_isAlike.data.toList.drop 0).take 64 = [42, 182, 0, 55, 43, 182, 0, 55, 148, 154, 0, 18, 42, 180, 0, 15, 43, 180, 0, 15, 160, 0, 7, 4, 167, 0, 4, 3, 172] := by decide +kernel
theorem dX1_isAlike_0 : decode cX1_isAlike 0 = .ok (.aload_n 0, 1) := dk_42 (dq_lk dX1_isAlike_w0 (r := 0) (x := 42) rfl)
theorem dX1_isAlike_1 : decode cX1_isAlike 1 = .ok (.invokevirtual 55, 3) := dk_182 (dq_lk dX1_isAlike_w0 (r := 1) (x := 182) rfl) (dq_lk dX1_isAlike_w0 (r := 2) (x := 0) rfl) (dq_lk dX1_isAlike_w0 (r := 3) (x := 55) rfl)
theorem dX1_isAlike_4 : decode cX1_isAlike 4 = .ok (.aload_n 1, 1) := dk_43 (dq_lk dX1_isAlike_w0 (r := 4) (x := 43) rfl)
theorem dX1_isAlike_5 : decode cX1_isAlike 5 = .ok (.invokevirtual 55, 3) := dk_182 (dq_lk dX1_isAlike_w0 (r := 5) (x := 182) rfl) (dq_lk dX1_isAlike_w0 (r := 6) (x := 0) rfl) (dq_lk dX1_isAlike_w0 (r := 7) (x := 55) rfl)
theorem dX1_isAlike_8 : decode cX1_isAlike 8 = .ok (.lcmp, 1) := dk_148 (dq_lk dX1_isAlike_w0 (r := 8) (x := 148) rfl)
theorem dX1_isAlike_9 : decode cX1_isAlike 9 = .ok (.ifCond .ne 18, 3) := dk_154 (dq_lk dX1_isAlike_w0 (r := 9) (x := 154) rfl) (dq_lk dX1_isAlike_w0 (r := 10) (x := 0) rfl) (dq_lk dX1_isAlike_w0 (r := 11) (x := 18) rfl) (by decide +kernel)
theorem dX1_isAlike_12 : decode cX1_isAlike 12 = .ok (.aload_n 0, 1) := dk_42 (dq_lk dX1_isAlike_w0 (r := 12) (x := 42) rfl)
theorem dX1_isAlike_13 : decode cX1_isAlike 13 = .ok (.getfield 15, 3) := dk_180 (dq_lk dX1_isAlike_w0 (r := 13) (x := 180) rfl) (dq_lk dX1_isAlike_w0 (r := 14) (x := 0) rfl) (dq_lk dX1_isAlike_w0 (r := 15) (x := 15) rfl)
theorem dX1_isAlike_16 : decode cX1_isAlike 16 = .ok (.aload_n 1, 1) := dk_43 (dq_lk dX1_isAlike_w0 (r := 16) (x := 43) rfl)
theorem dX1_isAlike_17 : decode cX1_isAlike 17 = .ok (.getfield 15, 3) := dk_180 (dq_lk dX1_isAlike_w0 (r := 17) (x := 180) rfl) (dq_lk dX1_isAlike_w0 (r := 18) (x := 0) rfl) (dq_lk dX1_isAlike_w0 (r := 19) (x := 15) rfl)
theorem dX1_isAlike_20 : decode cX1_isAlike 20 = .ok (.if_icmp .ne 7, 3) := dk_160 (dq_lk dX1_isAlike_w0 (r := 20) (x := 160) rfl) (dq_lk dX1_isAlike_w0 (r := 21) (x := 0) rfl) (dq_lk dX1_isAlike_w0 (r := 22) (x := 7) rfl) (by decide +kernel)
theorem dX1_isAlike_23 : decode cX1_isAlike 23 = .ok (.iconst 1, 1) := dk_4 (dq_lk dX1_isAlike_w0 (r := 23) (x := 4) rfl)
theorem dX1_isAlike_24 : decode cX1_isAlike 24 = .ok (.goto 4, 3) := dk_167 (dq_lk dX1_isAlike_w0 (r := 24) (x := 167) rfl) (dq_lk dX1_isAlike_w0 (r := 25) (x := 0) rfl) (dq_lk dX1_isAlike_w0 (r := 26) (x := 4) rfl) (by decide +kernel)
theorem dX1_isAlike_27 : decode cX1_isAlike 27 = .ok (.iconst 0, 1) := dk_3 (dq_lk dX1_isAlike_w0 (r := 27) (x := 3) rfl)
theorem dX1_isAlike_28 : decode cX1_isAlike 28 = .ok (.ireturn, 1) := dk_172 (dq_lk dX1_isAlike_w0 (r := 28) (x := 172) rfl)
theorem dX1_isSame_w0 : (cX1_isSame.data.toList.drop 0).take 64 = [42, 180, 0, 9, 43, 180, 0, 9, 148, 154, 0, 29, 42, 180, 0, 15, 43, 180, 0, 15, 160, 0, 18, 42, 180, 0, 19, 43, 180, 0, 19, 160, 0, 7, 4, 167, 0, 4, 3, 172] := by decide +kernel
theorem dX1_isSame_0 : decode cX1_isSame 0 = .ok (.aload_n 0, 1) := dk_42 (dq_lk dX1_isSame_w0 (r := 0) (x := 42) rfl)
theorem dX1_isSame_1 : decode cX1_isSame 1 = .ok (.getfield 9, 3) := dk_180 (dq_lk dX1_isSame_w0 (r := 1) (x := 180) rfl) (dq_lk dX1_isSame_w0 (r := 2) (x := 0) rfl) (dq_lk dX1_isSame_w0 (r := 3) (x := 9) rfl)
theorem dX1_isSame_4 : decode cX1_isSame 4 = .ok (.aload_n 1, 1) := dk_43 (dq_lk dX1_isSame_w0 (r := 4) (x := 43) rfl)
theorem dX1_isSame_5 : decode cX1_isSame 5 = .ok (.getfield 9, 3) := dk_180 (dq_lk dX1_isSame_w0 (r := 5) (x := 180) rfl) (dq_lk dX1_isSame_w0 (r := 6) (x := 0) rfl) (dq_lk dX1_isSame_w0 (r := 7) (x := 9) rfl)
theorem dX1_isSame_8 : decode cX1_isSame 8 = .ok (.lcmp, 1) := dk_148 (dq_lk dX1_isSame_w0 (r := 8) (x := 148) rfl)
theorem dX1_isSame_9 : decode cX1_isSame 9 = .ok (.ifCond .ne 29, 3) := dk_154 (dq_lk dX1_isSame_w0 (r := 9) (x := 154) rfl) (dq_lk dX1_isSame_w0 (r := 10) (x := 0) rfl) (dq_lk dX1_isSame_w0 (r := 11) (x := 29) rfl) (by decide +kernel)
theorem dX1_isSame_12 : decode cX1_isSame 12 = .ok (.aload_n 0, 1) := dk_42 (dq_lk dX1_isSame_w0 (r := 12) (x := 42) rfl)
theorem dX1_isSame_13 : decode cX1_isSame 13 = .ok (.getfield 15, 3) := dk_180 (dq_lk dX1_isSame_w0 (r := 13) (x := 180) rfl) (dq_lk dX1_isSame_w0 (r := 14) (x := 0) rfl) (dq_lk dX1_isSame_w0 (r := 15) (x := 15) rfl)
theorem dX1_isSame_16 : decode cX1_isSame 16 = .ok (.aload_n 1, 1) := dk_43 (dq_lk dX1_isSame_w0 (r := 16) (x := 43) rfl)
theorem dX1_isSame_17 : decode cX1_isSame 17 = .ok (.getfield 15, 3) := dk_180 (dq_lk dX1_isSame_w0 (r := 17) (x := 180) rfl) (dq_lk dX1_isSame_w0 (r := 18) (x := 0) rfl) (dq_lk dX1_isSame_w0 (r := 19) (x := 15) rfl)
theorem dX1_isSame_20 : decode cX1_isSame 20 = .ok (.if_icmp .ne 18, 3) := dk_160 (dq_lk dX1_isSame_w0 (r := 20) (x := 160) rfl) (dq_lk dX1_isSame_w0 (r := 21) (x := 0) rfl) (dq_lk dX1_isSame_w0 (r := 22) (x := 18) rfl) (by decide +kernel)
theorem dX1_isSame_23 : decode cX1_isSame 23 = .ok (.aload_n 0, 1) := dk_42 (dq_lk dX1_isSame_w0 (r := 23) (x := 42) rfl)
theorem dX1_isSame_24 : decode cX1_isSame 24 = .ok (.getfield 19, 3) := dk_180 (dq_lk dX1_isSame_w0 (r := 24) (x := 180) rfl) (dq_lk dX1_isSame_w0 (r := 25) (x := 0) rfl) (dq_lk dX1_isSame_w0 (r := 26) (x := 19) rfl)
theorem dX1_isSame_27 : decode cX1_isSame 27 = .ok (.aload_n 1, 1) := dk_43 (dq_lk dX1_isSame_w0 (r := 27) (x := 43) rfl)
theorem dX1_isSame_28 : decode cX1_isSame 28 = .ok (.getfield 19, 3) := dk_180 (dq_lk dX1_isSame_w0 (r := 28) (x := 180) rfl) (dq_lk dX1_isSame_w0 (r := 29) (x := 0) rfl) (dq_lk dX1_isSame_w0 (r := 30) (x := 19) rfl)
theorem dX1_isSame_31 : decode cX1_isSame 31 = .ok (.if_icmp .ne 7, 3) := dk_160 (dq_lk dX1_isSame_w0 (r := 31) (x := 160) rfl) (dq_lk dX1_isSame_w0 (r := 32) (x := 0) rfl) (dq_lk dX1_isSame_w0 (r := 33) (x := 7) rfl) (by decide +kernel)
theorem dX1_isSame_34 : decode cX1_isSame 34 = .ok (.iconst 1, 1) := dk_4 (dq_lk dX1_isSame_w0 (r := 34) (x := 4) rfl)
theorem dX1_isSame_35 : decode cX1_isSame 35 = .ok (.goto 4, 3) := dk_167 (dq_lk dX1_isSame_w0 (r := 35) (x := 167) rfl) (dq_lk dX1_isSame_w0 (r := 36) (x := 0) rfl) (dq_lk dX1_isSame_w0 (r := 37) (x := 4) rfl) (by decide +kernel)
theorem dX1_isSame_38 : decode cX1_isSame 38 = .ok (.iconst 0, 1) := dk_3 (dq_lk dX1_isSame_w0 (r := 38) (x := 3) rfl)
theorem dX1_isSame_39 : decode cX1_isSame 39 = .ok (.ireturn, 1) := dk_172 (dq_lk dX1_isSame_w0 (r := 39) (x := 172) rfl)
theorem dX1_orderTo_w0 : (cX1_orderTo.data.toList.drop 0).take 64 = [42, 43, 182, 0, 51, 61, 28, 153, 0, 7, 28, 167, 0, 14, 42, 180, 0, 9, 43, 180, 0, 9, 184, 0, 59, 172] := by decide +kernel
theorem dX1_orderTo_0 : decode cX1_orderTo 0 = .ok (.aload_n 0, 1) := dk_42 (dq_lk dX1_orderTo_w0 (r := 0) (x := 42) rfl)
theorem dX1_orderTo_1 : decode cX1_orderTo 1 = .ok (.aload_n 1, 1) := dk_43 (dq_lk dX1_orderTo_w0 (r := 1) (x := 43) rfl)
theorem dX1_orderTo_2 : decode cX1_orderTo 2 = .ok (.invokevirtual 51, 3) := dk_182 (dq_lk dX1_orderTo_w0 (r := 2) (x := 182) rfl) (dq_lk dX1_orderTo_w0 (r := 3) (x := 0) rfl) (dq_lk dX1_orderTo_w0 (r := 4) (x := 51) rfl)
theorem dX1_orderTo_5 : decode cX1_orderTo 5 = .ok (.istore_n 2, 1) := dk_61 (dq_lk dX1_orderTo_w0 (r := 5) (x := 61) rfl)
theorem dX1_orderTo_6 : decode cX1_orderTo 6 = .ok (.iload_n 2, 1) := dk_28 (dq_lk dX1_orderTo_w0 (r := 6) (x := 28) rfl)
theorem dX1_orderTo_7 : decode cX1_orderTo 7 = .ok (.ifCond .eq 7, 3) := dk_153 (dq_lk dX1_orderTo_w0 (r := 7) (x := 153) rfl) (dq_lk dX1_orderTo_w0 (r := 8) (x := 0) rfl) (dq_lk dX1_orderTo_w0 (r := 9) (x := 7) rfl) (by decide +kernel)
theorem dX1_orderTo_10 : decode cX1_orderTo 10 = .ok (.iload_n 2, 1) := dk_28 (dq_lk dX1_orderTo_w0 (r := 10) (x := 28) rfl)
theorem dX1_orderTo_11 : decode cX1_orderTo 11 = .ok (.goto 14, 3) := dk_167 (dq_lk dX1_orderTo_w0 (r := 11) (x := 167) rfl) (dq_lk dX1_orderTo_w0 (r := 12) (x := 0) rfl) (dq_lk dX1_orderTo_w0 (r := 13) (x := 14) rfl) (by decide +kernel)
theorem dX1_orderTo_14 : decode cX1_orderTo 14 = .ok (.aload_n 0, 1) := dk_42 (dq_lk dX1_orderTo_w0 (r := 14) (x := 42) rfl)
theorem dX1_orderTo_15 : decode cX1_orderTo 15 = .ok (.getfield 9, 3) := dk_180 (dq_lk dX1_orderTo_w0 (r := 15) (x := 180) rfl) (dq_lk dX1_orderTo_w0 (r := 16) (x := 0) rfl) (dq_lk dX1_orderTo_w0 (r := 17) (x := 9) rfl)
theorem dX1_orderTo_18 : decode cX1_orderTo 18 = .ok (.aload_n 1, 1) := dk_43 (dq_lk dX1_orderTo_w0 (r := 18) (x := 43) rfl)
theorem dX1_orderTo_19 : decode cX1_orderTo 19 = .ok (.getfield 9, 3) := dk_180 (dq_lk dX1_orderTo_w0 (r := 19) (x := 180) rfl) (dq_lk dX1_orderTo_w0 (r := 20) (x := 0) rfl) (dq_lk dX1_orderTo_w0 (r := 21) (x := 9) rfl)
theorem dX1_orderTo_22 : decode cX1_orderTo 22 = .ok (.invokestatic 59, 3) := dk_184 (dq_lk dX1_orderTo_w0 (r := 22) (x := 184) rfl) (dq_lk dX1_orderTo_w0 (r := 23) (x := 0) rfl) (dq_lk dX1_orderTo_w0 (r := 24) (x := 59) rfl)
theorem dX1_orderTo_25 : decode cX1_orderTo 25 = .ok (.ireturn, 1) := dk_172 (dq_lk dX1_orderTo_w0 (r := 25) (x := 172) rfl)
theorem dX2_numberOf_w0 : (cX2_numberOf.data.toList.drop 0).take 64 = [42, 182, 0, 169, 20, 0, 72, 105, 42, 180, 0, 172, 133, 97, 173] := by decide +kernel
theorem dX2_numberOf_0 : decode cX2_numberOf 0 = .ok (.aload_n 0, 1) := dk_42 (dq_lk dX2_numberOf_w0 (r := 0) (x := 42) rfl)
theorem dX2_numberOf_1 : decode cX2_numberOf 1 = .ok (.invokevirtual 169, 3) := dk_182 (dq_lk dX2_numberOf_w0 (r := 1) (x := 182) rfl) (dq_lk dX2_numberOf_w0 (r := 2) (x := 0) rfl) (dq_lk dX2_numberOf_w0 (r := 3) (x := 169) rfl)
theorem dX2_numberOf_4 : decode cX2_numberOf 4 = .ok (.ldc2_w 72, 3) := dk_20 (dq_lk dX2_numberOf_w0 (r := 4) (x := 20) rfl) (dq_lk dX2_numberOf_w0 (r := 5) (x := 0) rfl) (dq_lk dX2_numberOf_w0 (r := 6) (x := 72) rfl)
theorem dX2_numberOf_7 : decode cX2_numberOf 7 = .ok (.lmul, 1) := dk_105 (dq_lk dX2_numberOf_w0 (r := 7) (x := 105) rfl)
theorem dX2_numberOf_8 : decode cX2_numberOf 8 = .ok (.aload_n 0, 1) := dk_42 (dq_lk dX2_numberOf_w0 (r := 8) (x := 42) rfl)
theorem dX2_numberOf_9 : decode cX2_numberOf 9 = .ok (.getfield 172, 3) := dk_180 (dq_lk dX2_numberOf_w0 (r := 9) (x := 180) rfl) (dq_lk dX2_numberOf_w0 (r := 10) (x := 0) rfl) (dq_lk dX2_numberOf_w0 (r := 11) (x := 172) rfl)
theorem dX2_numberOf_12 : decode cX2_numberOf 12 = .ok (.i2l, 1) := dk_133 (dq_lk dX2_numberOf_w0 (r := 12) (x := 133) rfl)
theorem dX2_numberOf_13 : decode cX2_numberOf 13 = .ok (.ladd, 1) := dk_97 (dq_lk dX2_numberOf_w0 (r := 13) (x := 97) rfl)
theorem dX2_numberOf_14 : decode cX2_numberOf 14 = .ok (.lreturn, 1) := dk_173 (dq_lk dX2_numberOf_w0 (r := 14) (x := 173) rfl)
theorem dX2_secondsOn_w0 : (cX2_secondsOn.data.toList.drop 0).take 64 = [27, 170, 0, 0, 0, 0, 0, 65, 0, 0, 0, 2, 0, 0, 0, 6, 0, 0, 0, 35, 0, 0, 0, 45, 0, 0, 0, 51, 0, 0, 0, 57, 0, 0, 0, 63, 32, 20, 1, 46, 105, 20, 0, 130, 105, 173, 32, 20, 0, 130, 105, 173, 32, 20, 1, 48, 105, 173, 32, 20, 1, 50, 105, 173] := by decide +kernel
theorem dX2_secondsOn_w1 : (cX2_secondsOn.data.toList.drop 64).take 64 = [32, 173, 42, 180, 0, 172, 133, 32, 97, 184, 0, 96, 173] := by decide +kernel
theorem dX2_secondsOn_0 : decode cX2_secondsOn 0 = .ok (.iload_n 1, 1) := dk_27 (dq_lk dX2_secondsOn_w0 (r := 0) (x := 27) rfl)
theorem dX2_secondsOn_1 : decode cX2_secondsOn 1 = .ok (.tableswitch 65 2 6 #[35, 45, 51, 57, 63], 35) := by decide +kernel
theorem dX2_secondsOn_36 : decode cX2_secondsOn 36 = .ok (.lload_n 2, 1) := dk_32 (dq_lk dX2_secondsOn_w0 (r := 36) (x := 32) rfl)
theorem dX2_secondsOn_37 : decode cX2_secondsOn 37 = .ok (.ldc2_w 302, 3) := dk_20 (dq_lk dX2_secondsOn_w0 (r := 37) (x := 20) rfl) (dq_lk dX2_secondsOn_w0 (r := 38) (x := 1) rfl) (dq_lk dX2_secondsOn_w0 (r := 39) (x := 46) rfl)
theorem dX2_secondsOn_40 : decode cX2_secondsOn 40 = .ok (.lmul, 1) := dk_105 (dq_lk dX2_secondsOn_w0 (r := 40) (x := 105) rfl)
theorem dX2_secondsOn_41 : decode cX2_secondsOn 41 = .ok (.ldc2_w 130, 3) := dk_20 (dq_lk dX2_secondsOn_w0 (r := 41) (x := 20) rfl) (dq_lk dX2_secondsOn_w0 (r := 42) (x := 0) rfl) (dq_lk dX2_secondsOn_w0 (r := 43) (x := 130) rfl)
theorem dX2_secondsOn_44 : decode cX2_secondsOn 44 = .ok (.lmul, 1) := dk_105 (dq_lk dX2_secondsOn_w0 (r := 44) (x := 105) rfl)
theorem dX2_secondsOn_45 : decode cX2_secondsOn 45 = .ok (.lreturn, 1) := dk_173 (dq_lk dX2_secondsOn_w0 (r := 45) (x := 173) rfl)
theorem dX2_secondsOn_46 : decode cX2_secondsOn 46 = .ok (.lload_n 2, 1) := dk_32 (dq_lk dX2_secondsOn_w0 (r := 46) (x := 32) rfl)
theorem dX2_secondsOn_47 : decode cX2_secondsOn 47 = .ok (.ldc2_w 130, 3) := dk_20 (dq_lk dX2_secondsOn_w0 (r := 47) (x := 20) rfl) (dq_lk dX2_secondsOn_w0 (r := 48) (x := 0) rfl) (dq_lk dX2_secondsOn_w0 (r := 49) (x := 130) rfl)
theorem dX2_secondsOn_50 : decode cX2_secondsOn 50 = .ok (.lmul, 1) := dk_105 (dq_lk dX2_secondsOn_w0 (r := 50) (x := 105) rfl)
theorem dX2_secondsOn_51 : decode cX2_secondsOn 51 = .ok (.lreturn, 1) := dk_173 (dq_lk dX2_secondsOn_w0 (r := 51) (x := 173) rfl)
theorem dX2_secondsOn_52 : decode cX2_secondsOn 52 = .ok (.lload_n 2, 1) := dk_32 (dq_lk dX2_secondsOn_w0 (r := 52) (x := 32) rfl)
theorem dX2_secondsOn_53 : decode cX2_secondsOn 53 = .ok (.ldc2_w 304, 3) := dk_20 (dq_lk dX2_secondsOn_w0 (r := 53) (x := 20) rfl) (dq_lk dX2_secondsOn_w0 (r := 54) (x := 1) rfl) (dq_lk dX2_secondsOn_w0 (r := 55) (x := 48) rfl)
theorem dX2_secondsOn_56 : decode cX2_secondsOn 56 = .ok (.lmul, 1) := dk_105 (dq_lk dX2_secondsOn_w0 (r := 56) (x := 105) rfl)
theorem dX2_secondsOn_57 : decode cX2_secondsOn 57 = .ok (.lreturn, 1) := dk_173 (dq_lk dX2_secondsOn_w0 (r := 57) (x := 173) rfl)
theorem dX2_secondsOn_58 : decode cX2_secondsOn 58 = .ok (.lload_n 2, 1) := dk_32 (dq_lk dX2_secondsOn_w0 (r := 58) (x := 32) rfl)
theorem dX2_secondsOn_59 : decode cX2_secondsOn 59 = .ok (.ldc2_w 306, 3) := dk_20 (dq_lk dX2_secondsOn_w0 (r := 59) (x := 20) rfl) (dq_lk dX2_secondsOn_w0 (r := 60) (x := 1) rfl) (dq_lk dX2_secondsOn_w0 (r := 61) (x := 50) rfl)
theorem dX2_secondsOn_62 : decode cX2_secondsOn 62 = .ok (.lmul, 1) := dk_105 (dq_lk dX2_secondsOn_w0 (r := 62) (x := 105) rfl)
theorem dX2_secondsOn_63 : decode cX2_secondsOn 63 = .ok (.lreturn, 1) := dk_173 (dq_lk dX2_secondsOn_w0 (r := 63) (x := 173) rfl)
theorem dX2_secondsOn_64 : decode cX2_secondsOn 64 = .ok (.lload_n 2, 1) := dk_32 (dq_lk dX2_secondsOn_w1 (r := 0) (x := 32) rfl)
theorem dX2_secondsOn_65 : decode cX2_secondsOn 65 = .ok (.lreturn, 1) := dk_173 (dq_lk dX2_secondsOn_w1 (r := 1) (x := 173) rfl)
theorem dX2_secondsOn_66 : decode cX2_secondsOn 66 = .ok (.aload_n 0, 1) := dk_42 (dq_lk dX2_secondsOn_w1 (r := 2) (x := 42) rfl)
theorem dX2_secondsOn_67 : decode cX2_secondsOn 67 = .ok (.getfield 172, 3) := dk_180 (dq_lk dX2_secondsOn_w1 (r := 3) (x := 180) rfl) (dq_lk dX2_secondsOn_w1 (r := 4) (x := 0) rfl) (dq_lk dX2_secondsOn_w1 (r := 5) (x := 172) rfl)
theorem dX2_secondsOn_70 : decode cX2_secondsOn 70 = .ok (.i2l, 1) := dk_133 (dq_lk dX2_secondsOn_w1 (r := 6) (x := 133) rfl)
theorem dX2_secondsOn_71 : decode cX2_secondsOn 71 = .ok (.lload_n 2, 1) := dk_32 (dq_lk dX2_secondsOn_w1 (r := 7) (x := 32) rfl)
theorem dX2_secondsOn_72 : decode cX2_secondsOn 72 = .ok (.ladd, 1) := dk_97 (dq_lk dX2_secondsOn_w1 (r := 8) (x := 97) rfl)
theorem dX2_secondsOn_73 : decode cX2_secondsOn 73 = .ok (.invokestatic 96, 3) := dk_184 (dq_lk dX2_secondsOn_w1 (r := 9) (x := 184) rfl) (dq_lk dX2_secondsOn_w1 (r := 10) (x := 0) rfl) (dq_lk dX2_secondsOn_w1 (r := 11) (x := 96) rfl)
theorem dX2_secondsOn_76 : decode cX2_secondsOn 76 = .ok (.lreturn, 1) := dk_173 (dq_lk dX2_secondsOn_w1 (r := 12) (x := 173) rfl)
theorem dX2_nanoOn_w0 : (cX2_nanoOn.data.toList.drop 0).take 64 = [27, 16, 7, 160, 0, 16, 42, 180, 0, 172, 133, 32, 97, 184, 0, 92, 167, 0, 7, 42, 180, 0, 172, 172] := by decide +kernel
theorem dX2_nanoOn_0 : decode cX2_nanoOn 0 = .ok (.iload_n 1, 1) := dk_27 (dq_lk dX2_nanoOn_w0 (r := 0) (x := 27) rfl)
theorem dX2_nanoOn_1 : decode cX2_nanoOn 1 = .ok (.bipush 7, 2) := dk_16 (dq_lk dX2_nanoOn_w0 (r := 1) (x := 16) rfl) (dq_lk dX2_nanoOn_w0 (r := 2) (x := 7) rfl) (by decide +kernel)
theorem dX2_nanoOn_3 : decode cX2_nanoOn 3 = .ok (.if_icmp .ne 16, 3) := dk_160 (dq_lk dX2_nanoOn_w0 (r := 3) (x := 160) rfl) (dq_lk dX2_nanoOn_w0 (r := 4) (x := 0) rfl) (dq_lk dX2_nanoOn_w0 (r := 5) (x := 16) rfl) (by decide +kernel)
theorem dX2_nanoOn_6 : decode cX2_nanoOn 6 = .ok (.aload_n 0, 1) := dk_42 (dq_lk dX2_nanoOn_w0 (r := 6) (x := 42) rfl)
theorem dX2_nanoOn_7 : decode cX2_nanoOn 7 = .ok (.getfield 172, 3) := dk_180 (dq_lk dX2_nanoOn_w0 (r := 7) (x := 180) rfl) (dq_lk dX2_nanoOn_w0 (r := 8) (x := 0) rfl) (dq_lk dX2_nanoOn_w0 (r := 9) (x := 172) rfl)
theorem dX2_nanoOn_10 : decode cX2_nanoOn 10 = .ok (.i2l, 1) := dk_133 (dq_lk dX2_nanoOn_w0 (r := 10) (x := 133) rfl)
theorem dX2_nanoOn_11 : decode cX2_nanoOn 11 = .ok (.lload_n 2, 1) := dk_32 (dq_lk dX2_nanoOn_w0 (r := 11) (x := 32) rfl)
theorem dX2_nanoOn_12 : decode cX2_nanoOn 12 = .ok (.ladd, 1) := dk_97 (dq_lk dX2_nanoOn_w0 (r := 12) (x := 97) rfl)
theorem dX2_nanoOn_13 : decode cX2_nanoOn 13 = .ok (.invokestatic 92, 3) := dk_184 (dq_lk dX2_nanoOn_w0 (r := 13) (x := 184) rfl) (dq_lk dX2_nanoOn_w0 (r := 14) (x := 0) rfl) (dq_lk dX2_nanoOn_w0 (r := 15) (x := 92) rfl)
theorem dX2_nanoOn_16 : decode cX2_nanoOn 16 = .ok (.goto 7, 3) := dk_167 (dq_lk dX2_nanoOn_w0 (r := 16) (x := 167) rfl) (dq_lk dX2_nanoOn_w0 (r := 17) (x := 0) rfl) (dq_lk dX2_nanoOn_w0 (r := 18) (x := 7) rfl) (by decide +kernel)
theorem dX2_nanoOn_19 : decode cX2_nanoOn 19 = .ok (.aload_n 0, 1) := dk_42 (dq_lk dX2_nanoOn_w0 (r := 19) (x := 42) rfl)
theorem dX2_nanoOn_20 : decode cX2_nanoOn 20 = .ok (.getfield 172, 3) := dk_180 (dq_lk dX2_nanoOn_w0 (r := 20) (x := 180) rfl) (dq_lk dX2_nanoOn_w0 (r := 21) (x := 0) rfl) (dq_lk dX2_nanoOn_w0 (r := 22) (x := 172) rfl)
theorem dX2_nanoOn_23 : decode cX2_nanoOn 23 = .ok (.ireturn, 1) := dk_172 (dq_lk dX2_nanoOn_w0 (r := 23) (x := 172) rfl)
theorem dX2_datePart_w0 : (cX2_datePart.data.toList.drop 0).take 64 = [42, 182, 1, 18, 61, 27, 170, 0, 0, 0, 0, 120, 0, 0, 0, 0, 0, 0, 0, 11, 0, 0, 0, 62, 0, 0, 0, 67, 0, 0, 0, 72, 0, 0, 0, 77, 0, 0, 0, 82, 0, 0, 0, 87, 0, 0, 0, 92, 0, 0, 0, 97, 0, 0, 0, 102, 0, 0, 0, 107, 0, 0, 0, 112] := by decide +kernel
theorem dX2_datePart_w1 : (cX2_datePart.data.toList.drop 64).take 64 = [0, 0, 0, 118, 28, 184, 1, 67, 172, 28, 184, 1, 70, 172, 28, 184, 1, 55, 172, 28, 184, 1, 94, 172, 42, 182, 1, 79, 172, 42, 182, 1, 86, 172, 42, 182, 1, 89, 172, 42, 180, 0, 172, 172, 28, 184, 1, 97, 172, 42, 180, 0, 158, 172, 42, 182, 0, 169, 136, 172, 28, 172, 42, 182] := by decide +kernel
theorem dX2_datePart_w2 : (cX2_datePart.data.toList.drop 128).take 64 = [1, 64, 172] := by decide +kernel
theorem dX2_datePart_0 : decode cX2_datePart 0 = .ok (.aload_n 0, 1) := dk_42 (dq_lk dX2_datePart_w0 (r := 0) (x := 42) rfl)
theorem dX2_datePart_1 : decode cX2_datePart 1 = .ok (.invokevirtual 274, 3) := dk_182 (dq_lk dX2_datePart_w0 (r := 1) (x := 182) rfl) (dq_lk dX2_datePart_w0 (r := 2) (x := 1) rfl) (dq_lk dX2_datePart_w0 (r := 3) (x := 18) rfl)
theorem dX2_datePart_4 : decode cX2_datePart 4 = .ok (.istore_n 2, 1) := dk_61 (dq_lk dX2_datePart_w0 (r := 4) (x := 61) rfl)
theorem dX2_datePart_5 : decode cX2_datePart 5 = .ok (.iload_n 1, 1) := dk_27 (dq_lk dX2_datePart_w0 (r := 5) (x := 27) rfl)
theorem dX2_datePart_6 : decode cX2_datePart 6 = .ok (.tableswitch 120 0 11 #[62, 67, 72, 77, 82, 87, 92, 97, 102, 107, 112, 118], 62) := by decide +kernel
theorem dX2_datePart_68 : decode cX2_datePart 68 = .ok (.iload_n 2, 1) := dk_28 (dq_lk dX2_datePart_w1 (r := 4) (x := 28) rfl)
theorem dX2_datePart_69 : decode cX2_datePart 69 = .ok (.invokestatic 323, 3) := dk_184 (dq_lk dX2_datePart_w1 (r := 5) (x := 184) rfl) (dq_lk dX2_datePart_w1 (r := 6) (x := 1) rfl) (dq_lk dX2_datePart_w1 (r := 7) (x := 67) rfl)
theorem dX2_datePart_72 : decode cX2_datePart 72 = .ok (.ireturn, 1) := dk_172 (dq_lk dX2_datePart_w1 (r := 8) (x := 172) rfl)
theorem dX2_datePart_73 : decode cX2_datePart 73 = .ok (.iload_n 2, 1) := dk_28 (dq_lk dX2_datePart_w1 (r := 9) (x := 28) rfl)
theorem dX2_datePart_74 : decode cX2_datePart 74 = .ok (.invokestatic 326, 3) := dk_184 (dq_lk dX2_datePart_w1 (r := 10) (x := 184) rfl) (dq_lk dX2_datePart_w1 (r := 11) (x := 1) rfl) (dq_lk dX2_datePart_w1 (r := 12) (x := 70) rfl)
theorem dX2_datePart_77 : decode cX2_datePart 77 = .ok (.ireturn, 1) := dk_172 (dq_lk dX2_datePart_w1 (r := 13) (x := 172) rfl)
theorem dX2_datePart_78 : decode cX2_datePart 78 = .ok (.iload_n 2, 1) := dk_28 (dq_lk dX2_datePart_w1 (r := 14) (x := 28) rfl)
theorem dX2_datePart_79 : decode cX2_datePart 79 = .ok (.invokestatic 311, 3) := dk_184 (dq_lk dX2_datePart_w1 (r := 15) (x := 184) rfl) (dq_lk dX2_datePart_w1 (r := 16) (x := 1) rfl) (dq_lk dX2_datePart_w1 (r := 17) (x := 55) rfl)
theorem dX2_datePart_82 : decode cX2_datePart 82 = .ok (.ireturn, 1) := dk_172 (dq_lk dX2_datePart_w1 (r := 18) (x := 172) rfl)
theorem dX2_datePart_83 : decode cX2_datePart 83 = .ok (.iload_n 2, 1) := dk_28 (dq_lk dX2_datePart_w1 (r := 19) (x := 28) rfl)
theorem dX2_datePart_84 : decode cX2_datePart 84 = .ok (.invokestatic 350, 3) := dk_184 (dq_lk dX2_datePart_w1 (r := 20) (x := 184) rfl) (dq_lk dX2_datePart_w1 (r := 21) (x := 1) rfl) (dq_lk dX2_datePart_w1 (r := 22) (x := 94) rfl)
theorem dX2_datePart_87 : decode cX2_datePart 87 = .ok (.ireturn, 1) := dk_172 (dq_lk dX2_datePart_w1 (r := 23) (x := 172) rfl)
theorem dX2_datePart_88 : decode cX2_datePart 88 = .ok (.aload_n 0, 1) := dk_42 (dq_lk dX2_datePart_w1 (r := 24) (x := 42) rfl)
theorem dX2_datePart_89 : decode cX2_datePart 89 = .ok (.invokevirtual 335, 3) := dk_182 (dq_lk dX2_datePart_w1 (r := 25) (x := 182) rfl) (dq_lk dX2_datePart_w1 (r := 26) (x := 1) rfl) (dq_lk dX2_datePart_w1 (r := 27) (x := 79) rfl)
theorem dX2_datePart_92 : decode cX2_datePart 92 = .ok (.ireturn, 1) := dk_172 (dq_lk dX2_datePart_w1 (r := 28) (x := 172) rfl)
theorem dX2_datePart_93 : decode cX2_datePart 93 = .ok (.aload_n 0, 1) := dk_42 (dq_lk dX2_datePart_w1 (r := 29) (x := 42) rfl)
theorem dX2_datePart_94 : decode cX2_datePart 94 = .ok (.invokevirtual 342, 3) := dk_182 (dq_lk dX2_datePart_w1 (r := 30) (x := 182) rfl) (dq_lk dX2_datePart_w1 (r := 31) (x := 1) rfl) (dq_lk dX2_datePart_w1 (r := 32) (x := 86) rfl)
theorem dX2_datePart_97 : decode cX2_datePart 97 = .ok (.ireturn, 1) := dk_172 (dq_lk dX2_datePart_w1 (r := 33) (x := 172) rfl)
theorem dX2_datePart_98 : decode cX2_datePart 98 = .ok (.aload_n 0, 1) := dk_42 (dq_lk dX2_datePart_w1 (r := 34) (x := 42) rfl)
theorem dX2_datePart_99 : decode cX2_datePart 99 = .ok (.invokevirtual 345, 3) := dk_182 (dq_lk dX2_datePart_w1 (r := 35) (x := 182) rfl) (dq_lk dX2_datePart_w1 (r := 36) (x := 1) rfl) (dq_lk dX2_datePart_w1 (r := 37) (x := 89) rfl)
theorem dX2_datePart_102 : decode cX2_datePart 102 = .ok (.ireturn, 1) := dk_172 (dq_lk dX2_datePart_w1 (r := 38) (x := 172) rfl)
theorem dX2_datePart_103 : decode cX2_datePart 103 = .ok (.aload_n 0, 1) := dk_42 (dq_lk dX2_datePart_w1 (r := 39) (x := 42) rfl)
theorem dX2_datePart_104 : decode cX2_datePart 104 = .ok (.getfield 172, 3) := dk_180 (dq_lk dX2_datePart_w1 (r := 40) (x := 180) rfl) (dq_lk dX2_datePart_w1 (r := 41) (x := 0) rfl) (dq_lk dX2_datePart_w1 (r := 42) (x := 172) rfl)
theorem dX2_datePart_107 : decode cX2_datePart 107 = .ok (.ireturn, 1) := dk_172 (dq_lk dX2_datePart_w1 (r := 43) (x := 172) rfl)
theorem dX2_datePart_108 : decode cX2_datePart 108 = .ok (.iload_n 2, 1) := dk_28 (dq_lk dX2_datePart_w1 (r := 44) (x := 28) rfl)
theorem dX2_datePart_109 : decode cX2_datePart 109 = .ok (.invokestatic 353, 3) := dk_184 (dq_lk dX2_datePart_w1 (r := 45) (x := 184) rfl) (dq_lk dX2_datePart_w1 (r := 46) (x := 1) rfl) (dq_lk dX2_datePart_w1 (r := 47) (x := 97) rfl)
theorem dX2_datePart_112 : decode cX2_datePart 112 = .ok (.ireturn, 1) := dk_172 (dq_lk dX2_datePart_w1 (r := 48) (x := 172) rfl)
theorem dX2_datePart_113 : decode cX2_datePart 113 = .ok (.aload_n 0, 1) := dk_42 (dq_lk dX2_datePart_w1 (r := 49) (x := 42) rfl)
theorem dX2_datePart_114 : decode cX2_datePart 114 = .ok (.getfield 158, 3) := dk_180 (dq_lk dX2_datePart_w1 (r := 50) (x := 180) rfl) (dq_lk dX2_datePart_w1 (r := 51) (x := 0) rfl) (dq_lk dX2_datePart_w1 (r := 52) (x := 158) rfl)
theorem dX2_datePart_117 : decode cX2_datePart 117 = .ok (.ireturn, 1) := dk_172 (dq_lk dX2_datePart_w1 (r := 53) (x := 172) rfl)
theorem dX2_datePart_118 : decode cX2_datePart 118 = .ok (.aload_n 0, 1) := dk_42 (dq_lk dX2_datePart_w1 (r := 54) (x := 42) rfl)
theorem dX2_datePart_119 : decode cX2_datePart 119 = .ok (.invokevirtual 169, 3) := dk_182 (dq_lk dX2_datePart_w1 (r := 55) (x := 182) rfl) (dq_lk dX2_datePart_w1 (r := 56) (x := 0) rfl) (dq_lk dX2_datePart_w1 (r := 57) (x := 169) rfl)
theorem dX2_datePart_122 : decode cX2_datePart 122 = .ok (.l2i, 1) := dk_136 (dq_lk dX2_datePart_w1 (r := 58) (x := 136) rfl)
theorem dX2_datePart_123 : decode cX2_datePart 123 = .ok (.ireturn, 1) := dk_172 (dq_lk dX2_datePart_w1 (r := 59) (x := 172) rfl)
theorem dX2_datePart_124 : decode cX2_datePart 124 = .ok (.iload_n 2, 1) := dk_28 (dq_lk dX2_datePart_w1 (r := 60) (x := 28) rfl)
theorem dX2_datePart_125 : decode cX2_datePart 125 = .ok (.ireturn, 1) := dk_172 (dq_lk dX2_datePart_w1 (r := 61) (x := 172) rfl)
theorem dX2_datePart_126 : decode cX2_datePart 126 = .ok (.aload_n 0, 1) := dk_42 (dq_lk dX2_datePart_w1 (r := 62) (x := 42) rfl)
theorem dX2_datePart_127 : decode cX2_datePart 127 = .ok (.invokevirtual 320, 3) := dk_182 (dq_lk dX2_datePart_w1 (r := 63) (x := 182) rfl) (dq_lk dX2_datePart_w2 (r := 0) (x := 1) rfl) (dq_lk dX2_datePart_w2 (r := 1) (x := 64) rfl)
theorem dX2_datePart_130 : decode cX2_datePart 130 = .ok (.ireturn, 1) := dk_172 (dq_lk dX2_datePart_w2 (r := 2) (x := 172) rfl)
theorem dX2_clockPart_w0 : (cX2_clockPart.data.toList.drop 0).take 64 = [27, 170, 0, 0, 0, 0, 0, 60, 0, 0, 0, 0, 0, 0, 0, 4, 0, 0, 0, 35, 0, 0, 0, 40, 0, 0, 0, 45, 0, 0, 0, 50, 0, 0, 0, 55, 42, 182, 1, 79, 172, 42, 182, 1, 86, 172, 42, 182, 1, 89, 172, 42, 180, 0, 172, 172, 42, 180, 0, 158, 172, 42, 182, 1] := by decide +kernel
theorem dX2_clockPart_w1 : (cX2_clockPart.data.toList.drop 64).take 64 = [64, 172] := by decide +kernel
theorem dX2_clockPart_0 : decode cX2_clockPart 0 = .ok (.iload_n 1, 1) := dk_27 (dq_lk dX2_clockPart_w0 (r := 0) (x := 27) rfl)
theorem dX2_clockPart_1 : decode cX2_clockPart 1 = .ok (.tableswitch 60 0 4 #[35, 40, 45, 50, 55], 35) := by decide +kernel
theorem dX2_clockPart_36 : decode cX2_clockPart 36 = .ok (.aload_n 0, 1) := dk_42 (dq_lk dX2_clockPart_w0 (r := 36) (x := 42) rfl)
theorem dX2_clockPart_37 : decode cX2_clockPart 37 = .ok (.invokevirtual 335, 3) := dk_182 (dq_lk dX2_clockPart_w0 (r := 37) (x := 182) rfl) (dq_lk dX2_clockPart_w0 (r := 38) (x := 1) rfl) (dq_lk dX2_clockPart_w0 (r := 39) (x := 79) rfl)
theorem dX2_clockPart_40 : decode cX2_clockPart 40 = .ok (.ireturn, 1) := dk_172 (dq_lk dX2_clockPart_w0 (r := 40) (x := 172) rfl)
theorem dX2_clockPart_41 : decode cX2_clockPart 41 = .ok (.aload_n 0, 1) := dk_42 (dq_lk dX2_clockPart_w0 (r := 41) (x := 42) rfl)
theorem dX2_clockPart_42 : decode cX2_clockPart 42 = .ok (.invokevirtual 342, 3) := dk_182 (dq_lk dX2_clockPart_w0 (r := 42) (x := 182) rfl) (dq_lk dX2_clockPart_w0 (r := 43) (x := 1) rfl) (dq_lk dX2_clockPart_w0 (r := 44) (x := 86) rfl)
theorem dX2_clockPart_45 : decode cX2_clockPart 45 = .ok (.ireturn, 1) := dk_172 (dq_lk dX2_clockPart_w0 (r := 45) (x := 172) rfl)
theorem dX2_clockPart_46 : decode cX2_clockPart 46 = .ok (.aload_n 0, 1) := dk_42 (dq_lk dX2_clockPart_w0 (r := 46) (x := 42) rfl)
theorem dX2_clockPart_47 : decode cX2_clockPart 47 = .ok (.invokevirtual 345, 3) := dk_182 (dq_lk dX2_clockPart_w0 (r := 47) (x := 182) rfl) (dq_lk dX2_clockPart_w0 (r := 48) (x := 1) rfl) (dq_lk dX2_clockPart_w0 (r := 49) (x := 89) rfl)
theorem dX2_clockPart_50 : decode cX2_clockPart 50 = .ok (.ireturn, 1) := dk_172 (dq_lk dX2_clockPart_w0 (r := 50) (x := 172) rfl)
theorem dX2_clockPart_51 : decode cX2_clockPart 51 = .ok (.aload_n 0, 1) := dk_42 (dq_lk dX2_clockPart_w0 (r := 51) (x := 42) rfl)
theorem dX2_clockPart_52 : decode cX2_clockPart 52 = .ok (.getfield 172, 3) := dk_180 (dq_lk dX2_clockPart_w0 (r := 52) (x := 180) rfl) (dq_lk dX2_clockPart_w0 (r := 53) (x := 0) rfl) (dq_lk dX2_clockPart_w0 (r := 54) (x := 172) rfl)
theorem dX2_clockPart_55 : decode cX2_clockPart 55 = .ok (.ireturn, 1) := dk_172 (dq_lk dX2_clockPart_w0 (r := 55) (x := 172) rfl)
theorem dX2_clockPart_56 : decode cX2_clockPart 56 = .ok (.aload_n 0, 1) := dk_42 (dq_lk dX2_clockPart_w0 (r := 56) (x := 42) rfl)
theorem dX2_clockPart_57 : decode cX2_clockPart 57 = .ok (.getfield 158, 3) := dk_180 (dq_lk dX2_clockPart_w0 (r := 57) (x := 180) rfl) (dq_lk dX2_clockPart_w0 (r := 58) (x := 0) rfl) (dq_lk dX2_clockPart_w0 (r := 59) (x := 158) rfl)
theorem dX2_clockPart_60 : decode cX2_clockPart 60 = .ok (.ireturn, 1) := dk_172 (dq_lk dX2_clockPart_w0 (r := 60) (x := 172) rfl)
theorem dX2_clockPart_61 : decode cX2_clockPart 61 = .ok (.aload_n 0, 1) := dk_42 (dq_lk dX2_clockPart_w0 (r := 61) (x := 42) rfl)
theorem dX2_clockPart_62 : decode cX2_clockPart 62 = .ok (.invokevirtual 320, 3) := dk_182 (dq_lk dX2_clockPart_w0 (r := 62) (x := 182) rfl) (dq_lk dX2_clockPart_w0 (r := 63) (x := 1) rfl) (dq_lk dX2_clockPart_w1 (r := 0) (x := 64) rfl)
theorem dX2_clockPart_65 : decode cX2_clockPart 65 = .ok (.ireturn, 1) := dk_172 (dq_lk dX2_clockPart_w1 (r := 1) (x := 172) rfl)
theorem dX2_isSo_w0 : (cX2_isSo.data.toList.drop 0).take 64 = [28, 170, 0, 0, 0, 0, 0, 45, 0, 0, 0, 0, 0, 0, 0, 2, 0, 0, 0, 27, 0, 0, 0, 33, 0, 0, 0, 39, 42, 43, 182, 1, 100, 172, 43, 42, 182, 1, 100, 172, 42, 43, 182, 1, 104, 172, 42, 43, 182, 1, 107, 172] := by decide +kernel
theorem dX2_isSo_0 : decode cX2_isSo 0 = .ok (.iload_n 2, 1) := dk_28 (dq_lk dX2_isSo_w0 (r := 0) (x := 28) rfl)
theorem dX2_isSo_1 : decode cX2_isSo 1 = .ok (.tableswitch 45 0 2 #[27, 33, 39], 27) := by decide +kernel
theorem dX2_isSo_28 : decode cX2_isSo 28 = .ok (.aload_n 0, 1) := dk_42 (dq_lk dX2_isSo_w0 (r := 28) (x := 42) rfl)
theorem dX2_isSo_29 : decode cX2_isSo 29 = .ok (.aload_n 1, 1) := dk_43 (dq_lk dX2_isSo_w0 (r := 29) (x := 43) rfl)
theorem dX2_isSo_30 : decode cX2_isSo 30 = .ok (.invokevirtual 356, 3) := dk_182 (dq_lk dX2_isSo_w0 (r := 30) (x := 182) rfl) (dq_lk dX2_isSo_w0 (r := 31) (x := 1) rfl) (dq_lk dX2_isSo_w0 (r := 32) (x := 100) rfl)
theorem dX2_isSo_33 : decode cX2_isSo 33 = .ok (.ireturn, 1) := dk_172 (dq_lk dX2_isSo_w0 (r := 33) (x := 172) rfl)
theorem dX2_isSo_34 : decode cX2_isSo 34 = .ok (.aload_n 1, 1) := dk_43 (dq_lk dX2_isSo_w0 (r := 34) (x := 43) rfl)
theorem dX2_isSo_35 : decode cX2_isSo 35 = .ok (.aload_n 0, 1) := dk_42 (dq_lk dX2_isSo_w0 (r := 35) (x := 42) rfl)
theorem dX2_isSo_36 : decode cX2_isSo 36 = .ok (.invokevirtual 356, 3) := dk_182 (dq_lk dX2_isSo_w0 (r := 36) (x := 182) rfl) (dq_lk dX2_isSo_w0 (r := 37) (x := 1) rfl) (dq_lk dX2_isSo_w0 (r := 38) (x := 100) rfl)
theorem dX2_isSo_39 : decode cX2_isSo 39 = .ok (.ireturn, 1) := dk_172 (dq_lk dX2_isSo_w0 (r := 39) (x := 172) rfl)
theorem dX2_isSo_40 : decode cX2_isSo 40 = .ok (.aload_n 0, 1) := dk_42 (dq_lk dX2_isSo_w0 (r := 40) (x := 42) rfl)
theorem dX2_isSo_41 : decode cX2_isSo 41 = .ok (.aload_n 1, 1) := dk_43 (dq_lk dX2_isSo_w0 (r := 41) (x := 43) rfl)
theorem dX2_isSo_42 : decode cX2_isSo 42 = .ok (.invokevirtual 360, 3) := dk_182 (dq_lk dX2_isSo_w0 (r := 42) (x := 182) rfl) (dq_lk dX2_isSo_w0 (r := 43) (x := 1) rfl) (dq_lk dX2_isSo_w0 (r := 44) (x := 104) rfl)
theorem dX2_isSo_45 : decode cX2_isSo 45 = .ok (.ireturn, 1) := dk_172 (dq_lk dX2_isSo_w0 (r := 45) (x := 172) rfl)
theorem dX2_isSo_46 : decode cX2_isSo 46 = .ok (.aload_n 0, 1) := dk_42 (dq_lk dX2_isSo_w0 (r := 46) (x := 42) rfl)
theorem dX2_isSo_47 : decode cX2_isSo 47 = .ok (.aload_n 1, 1) := dk_43 (dq_lk dX2_isSo_w0 (r := 47) (x := 43) rfl)
theorem dX2_isSo_48 : decode cX2_isSo 48 = .ok (.invokevirtual 363, 3) := dk_182 (dq_lk dX2_isSo_w0 (r := 48) (x := 182) rfl) (dq_lk dX2_isSo_w0 (r := 49) (x := 1) rfl) (dq_lk dX2_isSo_w0 (r := 50) (x := 107) rfl)
theorem dX2_isSo_51 : decode cX2_isSo 51 = .ok (.ireturn, 1) := dk_172 (dq_lk dX2_isSo_w0 (r := 51) (x := 172) rfl)
theorem dX2_isPairSound_w0 : (cX2_isPairSound.data.toList.drop 0).take 64 = [42, 43, 182, 1, 100, 154, 0, 15, 43, 42, 182, 1, 100, 154, 0, 7, 4, 167, 0, 4, 3, 61, 42, 43, 182, 0, 179, 62, 42, 43, 182, 1, 104, 28, 160, 0, 29, 29, 43, 42, 182, 0, 179, 116, 160, 0, 19, 42, 43, 182, 1, 107, 153, 0, 7, 29, 154, 0, 7, 4, 167, 0, 4, 3] := by decide +kernel
theorem dX2_isPairSound_w1 : (cX2_isPairSound.data.toList.drop 64).take 64 = [172] := by decide +kernel
theorem dX2_isPairSound_0 : decode cX2_isPairSound 0 = .ok (.aload_n 0, 1) := dk_42 (dq_lk dX2_isPairSound_w0 (r := 0) (x := 42) rfl)
theorem dX2_isPairSound_1 : decode cX2_isPairSound 1 = .ok (.aload_n 1, 1) := dk_43 (dq_lk dX2_isPairSound_w0 (r := 1) (x := 43) rfl)
theorem dX2_isPairSound_2 : decode cX2_isPairSound 2 = .ok (.invokevirtual 356, 3) := dk_182 (dq_lk dX2_isPairSound_w0 (r := 2) (x := 182) rfl) (dq_lk dX2_isPairSound_w0 (r := 3) (x := 1) rfl) (dq_lk dX2_isPairSound_w0 (r := 4) (x := 100) rfl)
theorem dX2_isPairSound_5 : decode cX2_isPairSound 5 = .ok (.ifCond .ne 15, 3) := dk_154 (dq_lk dX2_isPairSound_w0 (r := 5) (x := 154) rfl) (dq_lk dX2_isPairSound_w0 (r := 6) (x := 0) rfl) (dq_lk dX2_isPairSound_w0 (r := 7) (x := 15) rfl) (by decide +kernel)
theorem dX2_isPairSound_8 : decode cX2_isPairSound 8 = .ok (.aload_n 1, 1) := dk_43 (dq_lk dX2_isPairSound_w0 (r := 8) (x := 43) rfl)
theorem dX2_isPairSound_9 : decode cX2_isPairSound 9 = .ok (.aload_n 0, 1) := dk_42 (dq_lk dX2_isPairSound_w0 (r := 9) (x := 42) rfl)
theorem dX2_isPairSound_10 : decode cX2_isPairSound 10 = .ok (.invokevirtual 356, 3) := dk_182 (dq_lk dX2_isPairSound_w0 (r := 10) (x := 182) rfl) (dq_lk dX2_isPairSound_w0 (r := 11) (x := 1) rfl) (dq_lk dX2_isPairSound_w0 (r := 12) (x := 100) rfl)
theorem dX2_isPairSound_13 : decode cX2_isPairSound 13 = .ok (.ifCond .ne 7, 3) := dk_154 (dq_lk dX2_isPairSound_w0 (r := 13) (x := 154) rfl) (dq_lk dX2_isPairSound_w0 (r := 14) (x := 0) rfl) (dq_lk dX2_isPairSound_w0 (r := 15) (x := 7) rfl) (by decide +kernel)
theorem dX2_isPairSound_16 : decode cX2_isPairSound 16 = .ok (.iconst 1, 1) := dk_4 (dq_lk dX2_isPairSound_w0 (r := 16) (x := 4) rfl)
theorem dX2_isPairSound_17 : decode cX2_isPairSound 17 = .ok (.goto 4, 3) := dk_167 (dq_lk dX2_isPairSound_w0 (r := 17) (x := 167) rfl) (dq_lk dX2_isPairSound_w0 (r := 18) (x := 0) rfl) (dq_lk dX2_isPairSound_w0 (r := 19) (x := 4) rfl) (by decide +kernel)
theorem dX2_isPairSound_20 : decode cX2_isPairSound 20 = .ok (.iconst 0, 1) := dk_3 (dq_lk dX2_isPairSound_w0 (r := 20) (x := 3) rfl)
theorem dX2_isPairSound_21 : decode cX2_isPairSound 21 = .ok (.istore_n 2, 1) := dk_61 (dq_lk dX2_isPairSound_w0 (r := 21) (x := 61) rfl)
theorem dX2_isPairSound_22 : decode cX2_isPairSound 22 = .ok (.aload_n 0, 1) := dk_42 (dq_lk dX2_isPairSound_w0 (r := 22) (x := 42) rfl)
theorem dX2_isPairSound_23 : decode cX2_isPairSound 23 = .ok (.aload_n 1, 1) := dk_43 (dq_lk dX2_isPairSound_w0 (r := 23) (x := 43) rfl)
theorem dX2_isPairSound_24 : decode cX2_isPairSound 24 = .ok (.invokevirtual 179, 3) := dk_182 (dq_lk dX2_isPairSound_w0 (r := 24) (x := 182) rfl) (dq_lk dX2_isPairSound_w0 (r := 25) (x := 0) rfl) (dq_lk dX2_isPairSound_w0 (r := 26) (x := 179) rfl)
theorem dX2_isPairSound_27 : decode cX2_isPairSound 27 = .ok (.istore_n 3, 1) := dk_62 (dq_lk dX2_isPairSound_w0 (r := 27) (x := 62) rfl)
theorem dX2_isPairSound_28 : decode cX2_isPairSound 28 = .ok (.aload_n 0, 1) := dk_42 (dq_lk dX2_isPairSound_w0 (r := 28) (x := 42) rfl)
theorem dX2_isPairSound_29 : decode cX2_isPairSound 29 = .ok (.aload_n 1, 1) := dk_43 (dq_lk dX2_isPairSound_w0 (r := 29) (x := 43) rfl)
theorem dX2_isPairSound_30 : decode cX2_isPairSound 30 = .ok (.invokevirtual 360, 3) := dk_182 (dq_lk dX2_isPairSound_w0 (r := 30) (x := 182) rfl) (dq_lk dX2_isPairSound_w0 (r := 31) (x := 1) rfl) (dq_lk dX2_isPairSound_w0 (r := 32) (x := 104) rfl)
theorem dX2_isPairSound_33 : decode cX2_isPairSound 33 = .ok (.iload_n 2, 1) := dk_28 (dq_lk dX2_isPairSound_w0 (r := 33) (x := 28) rfl)
theorem dX2_isPairSound_34 : decode cX2_isPairSound 34 = .ok (.if_icmp .ne 29, 3) := dk_160 (dq_lk dX2_isPairSound_w0 (r := 34) (x := 160) rfl) (dq_lk dX2_isPairSound_w0 (r := 35) (x := 0) rfl) (dq_lk dX2_isPairSound_w0 (r := 36) (x := 29) rfl) (by decide +kernel)
theorem dX2_isPairSound_37 : decode cX2_isPairSound 37 = .ok (.iload_n 3, 1) := dk_29 (dq_lk dX2_isPairSound_w0 (r := 37) (x := 29) rfl)
theorem dX2_isPairSound_38 : decode cX2_isPairSound 38 = .ok (.aload_n 1, 1) := dk_43 (dq_lk dX2_isPairSound_w0 (r := 38) (x := 43) rfl)
theorem dX2_isPairSound_39 : decode cX2_isPairSound 39 = .ok (.aload_n 0, 1) := dk_42 (dq_lk dX2_isPairSound_w0 (r := 39) (x := 42) rfl)
theorem dX2_isPairSound_40 : decode cX2_isPairSound 40 = .ok (.invokevirtual 179, 3) := dk_182 (dq_lk dX2_isPairSound_w0 (r := 40) (x := 182) rfl) (dq_lk dX2_isPairSound_w0 (r := 41) (x := 0) rfl) (dq_lk dX2_isPairSound_w0 (r := 42) (x := 179) rfl)
theorem dX2_isPairSound_43 : decode cX2_isPairSound 43 = .ok (.ineg, 1) := dk_116 (dq_lk dX2_isPairSound_w0 (r := 43) (x := 116) rfl)
theorem dX2_isPairSound_44 : decode cX2_isPairSound 44 = .ok (.if_icmp .ne 19, 3) := dk_160 (dq_lk dX2_isPairSound_w0 (r := 44) (x := 160) rfl) (dq_lk dX2_isPairSound_w0 (r := 45) (x := 0) rfl) (dq_lk dX2_isPairSound_w0 (r := 46) (x := 19) rfl) (by decide +kernel)
theorem dX2_isPairSound_47 : decode cX2_isPairSound 47 = .ok (.aload_n 0, 1) := dk_42 (dq_lk dX2_isPairSound_w0 (r := 47) (x := 42) rfl)
theorem dX2_isPairSound_48 : decode cX2_isPairSound 48 = .ok (.aload_n 1, 1) := dk_43 (dq_lk dX2_isPairSound_w0 (r := 48) (x := 43) rfl)
theorem dX2_isPairSound_49 : decode cX2_isPairSound 49 = .ok (.invokevirtual 363, 3) := dk_182 (dq_lk dX2_isPairSound_w0 (r := 49) (x := 182) rfl) (dq_lk dX2_isPairSound_w0 (r := 50) (x := 1) rfl) (dq_lk dX2_isPairSound_w0 (r := 51) (x := 107) rfl)
theorem dX2_isPairSound_52 : decode cX2_isPairSound 52 = .ok (.ifCond .eq 7, 3) := dk_153 (dq_lk dX2_isPairSound_w0 (r := 52) (x := 153) rfl) (dq_lk dX2_isPairSound_w0 (r := 53) (x := 0) rfl) (dq_lk dX2_isPairSound_w0 (r := 54) (x := 7) rfl) (by decide +kernel)
theorem dX2_isPairSound_55 : decode cX2_isPairSound 55 = .ok (.iload_n 3, 1) := dk_29 (dq_lk dX2_isPairSound_w0 (r := 55) (x := 29) rfl)
theorem dX2_isPairSound_56 : decode cX2_isPairSound 56 = .ok (.ifCond .ne 7, 3) := dk_154 (dq_lk dX2_isPairSound_w0 (r := 56) (x := 154) rfl) (dq_lk dX2_isPairSound_w0 (r := 57) (x := 0) rfl) (dq_lk dX2_isPairSound_w0 (r := 58) (x := 7) rfl) (by decide +kernel)
theorem dX2_isPairSound_59 : decode cX2_isPairSound 59 = .ok (.iconst 1, 1) := dk_4 (dq_lk dX2_isPairSound_w0 (r := 59) (x := 4) rfl)
theorem dX2_isPairSound_60 : decode cX2_isPairSound 60 = .ok (.goto 4, 3) := dk_167 (dq_lk dX2_isPairSound_w0 (r := 60) (x := 167) rfl) (dq_lk dX2_isPairSound_w0 (r := 61) (x := 0) rfl) (dq_lk dX2_isPairSound_w0 (r := 62) (x := 4) rfl) (by decide +kernel)
theorem dX2_isPairSound_63 : decode cX2_isPairSound 63 = .ok (.iconst 0, 1) := dk_3 (dq_lk dX2_isPairSound_w0 (r := 63) (x := 3) rfl)
theorem dX2_isPairSound_64 : decode cX2_isPairSound 64 = .ok (.ireturn, 1) := dk_172 (dq_lk dX2_isPairSound_w1 (r := 0) (x := 172) rfl)
