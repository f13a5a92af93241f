/-! The class, its contracts (rows by a program of this repository). -/
theorem dX2_seconds_0 : decode cX2_seconds 0 = .ok (.iload_n 1, 1) := by decide +kernel
theorem dX2_seconds_1 : decode cX2_seconds 1 = .ok (.aload_n 0, 1) := by decide +kernel
theorem dX2_seconds_2 : decode cX2_seconds 2 = .ok (.getfield 9, 3) := by decide +kernel
theorem dX2_seconds_5 : decode cX2_seconds 5 = .ok (.arraylength, 1) := by decide +kernel
theorem dX2_seconds_6 : decode cX2_seconds 6 = .ok (.invokestatic 34, 3) := by decide +kernel
theorem dX2_seconds_9 : decode cX2_seconds 9 = .ok (.aload_n 0, 1) := by decide +kernel
theorem dX2_seconds_10 : decode cX2_seconds 10 = .ok (.getfield 9, 3) := by decide +kernel
theorem dX2_seconds_13 : decode cX2_seconds 13 = .ok (.iload_n 1, 1) := by decide +kernel
theorem dX2_seconds_14 : decode cX2_seconds 14 = .ok (.iaload, 1) := by decide +kernel
theorem dX2_seconds_15 : decode cX2_seconds 15 = .ok (.ireturn, 1) := by decide +kernel
set_option maxHeartbeats 4000000 in
set_option maxRecDepth 20000 in
theorem c_X2_seconds_ok (ad : Nat → Nat) (cs : ClassId × ClassId × ClassId) (K : mK) (rest : va_W) (j1 : Nat) (hj1 : j1 < 4) : mCt (mTy cs) yX2_seconds cX2_seconds 2 (some .int) ⟨1, 0, 0, 21⟩ [.ref (ad 0), .int (nI j1)] (mWd ad cs K rest) (fun v ws' => v = some (.int (K.1 j1)) ∧ ws' = mWd ad cs K rest) mNo := by
  refine mCt.of (by decide +kernel) (Nat.le_of_ble_eq_true rfl) (fun X hX hE => ?_)
  have hX : mOK X RX2 cX2_seconds 2 ⟨1, 0, 0, 21⟩ [] (mTy cs) := hX
  refine r_iload_n hX dX2_seconds_0 rfl rfl ?_
  refine r_aload_n hX dX2_seconds_1 rfl rfl ?_
  refine r_get hX kf_X2_9 0 rfl rfl dX2_seconds_2 ?_
  refine r_alen (v := nI 4) hX 1 0 rfl rfl rfl dX2_seconds_5 ?_
  refine r_callS hX (c_X2_requireOne_ok _ _ 4 (by decide) j1 hj1) ks_X2_34 rfl rfl (Nat.le_of_ble_eq_true rfl) ⟨(Nat.le_of_ble_eq_true rfl), (Nat.le_of_ble_eq_true rfl)⟩ ⟨(Nat.le_of_ble_eq_true rfl), (Nat.le_of_ble_eq_true rfl)⟩ dX2_seconds_6 (fun _ _ z => False.elim z) (fun v9 ws9 h1 => ?_)
  obtain ⟨rfl, hw9⟩ := h1
  subst ws9
  dsimp only [mPush]
  refine r_aload_n hX dX2_seconds_9 rfl rfl ?_
  refine r_get hX kf_X2_9 0 rfl rfl dX2_seconds_10 ?_
  refine r_iload_n hX dX2_seconds_13 rfl rfl ?_
  refine r_iald hX 1 0 rfl rfl (vp_in_nI hj1 (by decide)) dX2_seconds_14 ?_
  exact r_iret hX hE dX2_seconds_15 (Nat.le_of_ble_eq_true rfl) (Nat.le_of_ble_eq_true rfl) ⟨by rw [nI_clamp (show j1 < 2 ^ 31 by omega)], rfl⟩
set_option maxHeartbeats 4000000 in
set_option maxRecDepth 20000 in
theorem c_X2_seconds (ad : Nat → Nat) (cs : ClassId × ClassId × ClassId) (K : mK) (rest : va_W) (p0 : Int32) : mCt (mTy cs) yX2_seconds cX2_seconds 2 (some .int) ⟨7, 1, 6, 103⟩ [.ref (ad 0), .int p0] (mWd ad cs K rest) (fun v ws' => ∃ j, j < 4 ∧ p0 = nI j ∧ v = some (.int (K.1 j)) ∧ ws' = mWd ad cs K rest) (fun E ws' => E = xI ∧ ws' = mWd ad cs K rest ∧ ¬ vp_in p0 4) := by
  refine mCt.of (by decide +kernel) (Nat.le_of_ble_eq_true rfl) (fun X hX hE => ?_)
  have hX : mOK X RX2 cX2_seconds 2 ⟨7, 1, 6, 103⟩ [] (mTy cs) := hX
  refine r_iload_n hX dX2_seconds_0 rfl rfl ?_
  refine r_aload_n hX dX2_seconds_1 rfl rfl ?_
  refine r_get hX kf_X2_9 0 rfl rfl dX2_seconds_2 ?_
  refine r_alen (v := nI 4) hX 1 0 rfl rfl rfl dX2_seconds_5 ?_
  refine r_callS hX (c_X2_requireOne _ _ _ 4 (by decide)) ks_X2_34 rfl rfl (Nat.le_of_ble_eq_true rfl) ⟨(Nat.le_of_ble_eq_true rfl), (Nat.le_of_ble_eq_true rfl)⟩ ⟨(Nat.le_of_ble_eq_true rfl), (Nat.le_of_ble_eq_true rfl)⟩ dX2_seconds_6 (fun E ws9 z => r_out hX hE (Nat.le_of_ble_eq_true rfl) (Nat.le_of_ble_eq_true rfl) (z)) (fun v9 ws9 h1 => ?_)
  obtain ⟨i3, hhi3, rfl, rfl, hw9⟩ := h1
  subst ws9
  dsimp only [mPush]
  refine r_aload_n hX dX2_seconds_9 rfl rfl ?_
  refine r_get hX kf_X2_9 0 rfl rfl dX2_seconds_10 ?_
  refine r_iload_n hX dX2_seconds_13 rfl rfl ?_
  refine r_iald hX 1 0 rfl rfl (vp_in_nI hhi3 (by decide)) dX2_seconds_14 ?_
  exact r_iret hX hE dX2_seconds_15 (Nat.le_of_ble_eq_true rfl) (Nat.le_of_ble_eq_true rfl) ⟨i3, hhi3, rfl, by rw [nI_clamp (show i3 < 2 ^ 31 by omega)], rfl⟩
theorem dX2_ofMoment_0 : decode cX2_ofMoment 0 = .ok (.iload_n 1, 1) := by decide +kernel
theorem dX2_ofMoment_1 : decode cX2_ofMoment 1 = .ok (.aload_n 0, 1) := by decide +kernel
theorem dX2_ofMoment_2 : decode cX2_ofMoment 2 = .ok (.getfield 13, 3) := by decide +kernel
theorem dX2_ofMoment_5 : decode cX2_ofMoment 5 = .ok (.arraylength, 1) := by decide +kernel
theorem dX2_ofMoment_6 : decode cX2_ofMoment 6 = .ok (.invokestatic 34, 3) := by decide +kernel
theorem dX2_ofMoment_9 : decode cX2_ofMoment 9 = .ok (.iload_n 2, 1) := by decide +kernel
theorem dX2_ofMoment_10 : decode cX2_ofMoment 10 = .ok (.ifCond .eq 15, 3) := by decide +kernel
theorem dX2_ofMoment_13 : decode cX2_ofMoment 13 = .ok (.aload_n 0, 1) := by decide +kernel
theorem dX2_ofMoment_14 : decode cX2_ofMoment 14 = .ok (.getfield 13, 3) := by decide +kernel
theorem dX2_ofMoment_17 : decode cX2_ofMoment 17 = .ok (.iload_n 1, 1) := by decide +kernel
theorem dX2_ofMoment_18 : decode cX2_ofMoment 18 = .ok (.laload, 1) := by decide +kernel
theorem dX2_ofMoment_19 : decode cX2_ofMoment 19 = .ok (.invokestatic 92, 3) := by decide +kernel
theorem dX2_ofMoment_22 : decode cX2_ofMoment 22 = .ok (.goto 13, 3) := by decide +kernel
theorem dX2_ofMoment_25 : decode cX2_ofMoment 25 = .ok (.aload_n 0, 1) := by decide +kernel
theorem dX2_ofMoment_26 : decode cX2_ofMoment 26 = .ok (.getfield 13, 3) := by decide +kernel
theorem dX2_ofMoment_29 : decode cX2_ofMoment 29 = .ok (.iload_n 1, 1) := by decide +kernel
theorem dX2_ofMoment_30 : decode cX2_ofMoment 30 = .ok (.laload, 1) := by decide +kernel
theorem dX2_ofMoment_31 : decode cX2_ofMoment 31 = .ok (.invokestatic 96, 3) := by decide +kernel
theorem dX2_ofMoment_34 : decode cX2_ofMoment 34 = .ok (.l2i, 1) := by decide +kernel
theorem dX2_ofMoment_35 : decode cX2_ofMoment 35 = .ok (.ireturn, 1) := by decide +kernel
set_option maxHeartbeats 4000000 in
set_option maxRecDepth 20000 in
theorem c_X2_ofMoment_ok (ad : Nat → Nat) (cs : ClassId × ClassId × ClassId) (K : mK) (rest : va_W) (j0 : Nat) (hj0 : j0 < 4) (p1 : Int32) : mCt (mTy cs) yX2_ofMoment cX2_ofMoment 3 (some .int) ⟨2, 0, 0, 46⟩ [.ref (ad 0), .int (nI j0), .int p1] (mWd ad cs K rest) (mWi ad cs K rest) mNo := by
  refine mCt.of (by decide +kernel) (Nat.le_of_ble_eq_true rfl) (fun X hX hE => ?_)
  have hX : mOK X RX2 cX2_ofMoment 3 ⟨2, 0, 0, 46⟩ [] (mTy cs) := hX
  refine r_iload_n hX dX2_ofMoment_0 rfl rfl ?_
  refine r_aload_n hX dX2_ofMoment_1 rfl rfl ?_
  refine r_get hX kf_X2_13 0 rfl rfl dX2_ofMoment_2 ?_
  refine r_alen (v := nI 4) hX 2 1 rfl rfl rfl dX2_ofMoment_5 ?_
  refine r_callS hX (c_X2_requireOne_ok _ _ 4 (by decide) j0 hj0) ks_X2_34 rfl rfl (Nat.le_of_ble_eq_true rfl) ⟨(Nat.le_of_ble_eq_true rfl), (Nat.le_of_ble_eq_true rfl)⟩ ⟨(Nat.le_of_ble_eq_true rfl), (Nat.le_of_ble_eq_true rfl)⟩ dX2_ofMoment_6 (fun _ _ z => False.elim z) (fun v9 ws9 h1 => ?_)
  obtain ⟨rfl, hw9⟩ := h1
  subst ws9
  dsimp only [mPush]
  refine r_iload_n hX dX2_ofMoment_9 rfl rfl ?_
  refine r_if_eq (tgt := 25) hX dX2_ofMoment_10 (by decide) (fun c3 => ?_) (fun c3 => ?_)
  · refine r_aload_n hX dX2_ofMoment_25 rfl rfl ?_
    refine r_get hX kf_X2_13 0 rfl rfl dX2_ofMoment_26 ?_
    refine r_iload_n hX dX2_ofMoment_29 rfl rfl ?_
    refine r_lald hX 2 1 rfl rfl (vp_in_nI hj0 (by decide)) dX2_ofMoment_30 ?_
    refine r_callS hX (c_X2_secondOf _ _ _) ks_X2_96 rfl rfl (Nat.le_of_ble_eq_true rfl) ⟨(Nat.le_of_ble_eq_true rfl), (Nat.le_of_ble_eq_true rfl)⟩ ⟨(Nat.le_of_ble_eq_true rfl), (Nat.le_of_ble_eq_true rfl)⟩ dX2_ofMoment_31 (fun _ _ z => False.elim z) (fun v9 ws9 h4 => ?_)
    obtain ⟨r6, rfl, hw9⟩ := h4
    subst ws9
    dsimp only [mPush]
    refine r_l2i hX dX2_ofMoment_34 ?_
    exact r_iret hX hE dX2_ofMoment_35 (Nat.le_of_ble_eq_true rfl) (Nat.le_of_ble_eq_true rfl) ⟨_, K, rfl, rfl, rfl⟩
  · refine r_aload_n hX dX2_ofMoment_13 rfl rfl ?_
    refine r_get hX kf_X2_13 0 rfl rfl dX2_ofMoment_14 ?_
    refine r_iload_n hX dX2_ofMoment_17 rfl rfl ?_
    refine r_lald hX 2 1 rfl rfl (vp_in_nI hj0 (by decide)) dX2_ofMoment_18 ?_
    refine r_callS hX (c_X2_nanoOf _ _ _) ks_X2_92 rfl rfl (Nat.le_of_ble_eq_true rfl) ⟨(Nat.le_of_ble_eq_true rfl), (Nat.le_of_ble_eq_true rfl)⟩ ⟨(Nat.le_of_ble_eq_true rfl), (Nat.le_of_ble_eq_true rfl)⟩ dX2_ofMoment_19 (fun _ _ z => False.elim z) (fun v9 ws9 h7 => ?_)
    obtain ⟨r9, rfl, hw9⟩ := h7
    subst ws9
    dsimp only [mPush]
    refine r_goto (tgt := 35) hX dX2_ofMoment_22 (by decide) ?_
    exact r_iret hX hE dX2_ofMoment_35 (Nat.le_of_ble_eq_true rfl) (Nat.le_of_ble_eq_true rfl) ⟨_, K, rfl, rfl, rfl⟩
set_option maxHeartbeats 4000000 in
set_option maxRecDepth 20000 in
theorem c_X2_ofMoment (ad : Nat → Nat) (cs : ClassId × ClassId × ClassId) (K : mK) (rest : va_W) (p0 : Int32) (p1 : Int32) : mCt (mTy cs) yX2_ofMoment cX2_ofMoment 3 (some .int) ⟨7, 1, 6, 103⟩ [.ref (ad 0), .int p0, .int p1] (mWd ad cs K rest) (mWi ad cs K rest) (mTh [xI] (mWd ad cs K rest)) := by
  refine mCt.of (by decide +kernel) (Nat.le_of_ble_eq_true rfl) (fun X hX hE => ?_)
  have hX : mOK X RX2 cX2_ofMoment 3 ⟨7, 1, 6, 103⟩ [] (mTy cs) := hX
  refine r_iload_n hX dX2_ofMoment_0 rfl rfl ?_
  refine r_aload_n hX dX2_ofMoment_1 rfl rfl ?_
  refine r_get hX kf_X2_13 0 rfl rfl dX2_ofMoment_2 ?_
  refine r_alen (v := nI 4) hX 2 1 rfl rfl rfl dX2_ofMoment_5 ?_
  refine r_callS hX (c_X2_requireOne _ _ _ 4 (by decide)) ks_X2_34 rfl rfl (Nat.le_of_ble_eq_true rfl) ⟨(Nat.le_of_ble_eq_true rfl), (Nat.le_of_ble_eq_true rfl)⟩ ⟨(Nat.le_of_ble_eq_true rfl), (Nat.le_of_ble_eq_true rfl)⟩ dX2_ofMoment_6 (fun E ws9 z => r_out hX hE (Nat.le_of_ble_eq_true rfl) (Nat.le_of_ble_eq_true rfl) (⟨by rw [z.1]; exact List.mem_cons_self, z.2.1⟩)) (fun v9 ws9 h1 => ?_)
  obtain ⟨i3, hhi3, rfl, rfl, hw9⟩ := h1
  subst ws9
  dsimp only [mPush]
  refine r_iload_n hX dX2_ofMoment_9 rfl rfl ?_
  refine r_if_eq (tgt := 25) hX dX2_ofMoment_10 (by decide) (fun c4 => ?_) (fun c4 => ?_)
  · refine r_aload_n hX dX2_ofMoment_25 rfl rfl ?_
    refine r_get hX kf_X2_13 0 rfl rfl dX2_ofMoment_26 ?_
    refine r_iload_n hX dX2_ofMoment_29 rfl rfl ?_
    refine r_lald hX 2 1 rfl rfl (vp_in_nI hhi3 (by decide)) dX2_ofMoment_30 ?_
    refine r_callS hX (c_X2_secondOf _ _ _) ks_X2_96 rfl rfl (Nat.le_of_ble_eq_true rfl) ⟨(Nat.le_of_ble_eq_true rfl), (Nat.le_of_ble_eq_true rfl)⟩ ⟨(Nat.le_of_ble_eq_true rfl), (Nat.le_of_ble_eq_true rfl)⟩ dX2_ofMoment_31 (fun _ _ z => False.elim z) (fun v9 ws9 h5 => ?_)
    obtain ⟨r7, rfl, hw9⟩ := h5
    subst ws9
    dsimp only [mPush]
    refine r_l2i hX dX2_ofMoment_34 ?_
    exact r_iret hX hE dX2_ofMoment_35 (Nat.le_of_ble_eq_true rfl) (Nat.le_of_ble_eq_true rfl) ⟨_, K, rfl, rfl, rfl⟩
  · refine r_aload_n hX dX2_ofMoment_13 rfl rfl ?_
    refine r_get hX kf_X2_13 0 rfl rfl dX2_ofMoment_14 ?_
    refine r_iload_n hX dX2_ofMoment_17 rfl rfl ?_
    refine r_lald hX 2 1 rfl rfl (vp_in_nI hhi3 (by decide)) dX2_ofMoment_18 ?_
    refine r_callS hX (c_X2_nanoOf _ _ _) ks_X2_92 rfl rfl (Nat.le_of_ble_eq_true rfl) ⟨(Nat.le_of_ble_eq_true rfl), (Nat.le_of_ble_eq_true rfl)⟩ ⟨(Nat.le_of_ble_eq_true rfl), (Nat.le_of_ble_eq_true rfl)⟩ dX2_ofMoment_19 (fun _ _ z => False.elim z) (fun v9 ws9 h8 => ?_)
    obtain ⟨r10, rfl, hw9⟩ := h8
    subst ws9
    dsimp only [mPush]
    refine r_goto (tgt := 35) hX dX2_ofMoment_22 (by decide) ?_
    exact r_iret hX hE dX2_ofMoment_35 (Nat.le_of_ble_eq_true rfl) (Nat.le_of_ble_eq_true rfl) ⟨_, K, rfl, rfl, rfl⟩
theorem dX2_house_0 : decode cX2_house 0 = .ok (.iload_n 1, 1) := by decide +kernel
theorem dX2_house_1 : decode cX2_house 1 = .ok (.iconst 0, 1) := by decide +kernel
theorem dX2_house_2 : decode cX2_house 2 = .ok (.iconst 3, 1) := by decide +kernel
theorem dX2_house_3 : decode cX2_house 3 = .ok (.invokestatic 40, 3) := by decide +kernel
theorem dX2_house_6 : decode cX2_house 6 = .ok (.iload_n 1, 1) := by decide +kernel
theorem dX2_house_7 : decode cX2_house 7 = .ok (.tableswitch 40 0 2 #[25, 30, 35], 25) := by decide +kernel
theorem dX2_house_32 : decode cX2_house 32 = .ok (.aload_n 0, 1) := by decide +kernel
theorem dX2_house_33 : decode cX2_house 33 = .ok (.getfield 196, 3) := by decide +kernel
theorem dX2_house_36 : decode cX2_house 36 = .ok (.ireturn, 1) := by decide +kernel
theorem dX2_house_37 : decode cX2_house 37 = .ok (.aload_n 0, 1) := by decide +kernel
theorem dX2_house_38 : decode cX2_house 38 = .ok (.getfield 199, 3) := by decide +kernel
theorem dX2_house_41 : decode cX2_house 41 = .ok (.ireturn, 1) := by decide +kernel
theorem dX2_house_42 : decode cX2_house 42 = .ok (.aload_n 0, 1) := by decide +kernel
theorem dX2_house_43 : decode cX2_house 43 = .ok (.invokevirtual 202, 3) := by decide +kernel
theorem dX2_house_46 : decode cX2_house 46 = .ok (.ireturn, 1) := by decide +kernel
theorem dX2_house_47 : decode cX2_house 47 = .ok (.aload_n 0, 1) := by decide +kernel
theorem dX2_house_48 : decode cX2_house 48 = .ok (.invokevirtual 205, 3) := by decide +kernel
theorem dX2_house_51 : decode cX2_house 51 = .ok (.ireturn, 1) := by decide +kernel
set_option maxHeartbeats 4000000 in
set_option maxRecDepth 20000 in
theorem c_X2_house_ok (ad : Nat → Nat) (cs : ClassId × ClassId × ClassId) (K : mK) (rest : va_W) (j0 : Nat) (hj0 : j0 < 4) : mCt (mTy cs) yX2_house cX2_house 2 (some .int) ⟨4, 0, 0, 89⟩ [.ref (ad 0), .int (nI j0)] (mWd ad cs K rest) (mWi ad cs K rest) mNo := by
  refine mCt.of (by decide +kernel) (Nat.le_of_ble_eq_true rfl) (fun X hX hE => ?_)
  have hX : mOK X RX2 cX2_house 2 ⟨4, 0, 0, 89⟩ [] (mTy cs) := hX
  refine r_iload_n hX dX2_house_0 rfl rfl ?_
  refine r_iconst (v := 0) hX dX2_house_1 (by decide) ?_
  refine r_iconst (v := 3) hX dX2_house_2 (by decide) ?_
  refine r_callS hX (c_X2_requireWithin_ok _ _ _ _ _ (mbn hj0)) ks_X2_40 rfl rfl (Nat.le_of_ble_eq_true rfl) ⟨(Nat.le_of_ble_eq_true rfl), (Nat.le_of_ble_eq_true rfl)⟩ ⟨(Nat.le_of_ble_eq_true rfl), (Nat.le_of_ble_eq_true rfl)⟩ dX2_house_3 (fun _ _ z => False.elim z) (fun v9 ws9 h1 => ?_)
  obtain ⟨rfl, hw9⟩ := h1
  subst ws9
  dsimp only [mPush]
  refine r_iload_n hX dX2_house_6 rfl rfl ?_
  by_cases s3 : (nI j0).toInt = 0
  · refine r_tableIn (off := 25) (tgt := 32) hX dX2_house_7 (by omega) (by omega) (by rw [s3]; rfl) (by decide) ?_
    refine r_aload_n hX dX2_house_32 rfl rfl ?_
    refine r_get hX kf_X2_196 0 rfl rfl dX2_house_33 ?_
    exact r_iret hX hE dX2_house_36 (Nat.le_of_ble_eq_true rfl) (Nat.le_of_ble_eq_true rfl) ⟨_, K, rfl, rfl, rfl⟩
  by_cases s4 : (nI j0).toInt = 1
  · refine r_tableIn (off := 30) (tgt := 37) hX dX2_house_7 (by omega) (by omega) (by rw [s4]; rfl) (by decide) ?_
    refine r_aload_n hX dX2_house_37 rfl rfl ?_
    refine r_get hX kf_X2_199 0 rfl rfl dX2_house_38 ?_
    exact r_iret hX hE dX2_house_41 (Nat.le_of_ble_eq_true rfl) (Nat.le_of_ble_eq_true rfl) ⟨_, K, rfl, rfl, rfl⟩
  by_cases s5 : (nI j0).toInt = 2
  · refine r_tableIn (off := 35) (tgt := 42) hX dX2_house_7 (by omega) (by omega) (by rw [s5]; rfl) (by decide) ?_
    refine r_aload_n hX dX2_house_42 rfl rfl ?_
    refine r_callV hX (c_X2_firstDated _ _ _ _) kv_X2_202 0 rfl rfl rfl rfl (Nat.le_of_ble_eq_true rfl) ⟨(Nat.le_of_ble_eq_true rfl), (Nat.le_of_ble_eq_true rfl)⟩ ⟨(Nat.le_of_ble_eq_true rfl), (Nat.le_of_ble_eq_true rfl)⟩ dX2_house_43 (fun _ _ z => False.elim z) (fun v9 ws9 h6 => ?_)
    obtain ⟨r8, K9, hK9, rfl, hw9⟩ := h6
    subst ws9
    dsimp only [mPush]
    exact r_iret hX hE dX2_house_46 (Nat.le_of_ble_eq_true rfl) (Nat.le_of_ble_eq_true rfl) ⟨_, K9, (hK9.trans rfl), rfl, rfl⟩
  refine r_tableOut (tgt := 47) hX dX2_house_7 (by omega) (by decide) ?_
  refine r_aload_n hX dX2_house_47 rfl rfl ?_
  refine r_callV hX (c_X2_firstMoment _ _ _ _) kv_X2_205 0 rfl rfl rfl rfl (Nat.le_of_ble_eq_true rfl) ⟨(Nat.le_of_ble_eq_true rfl), (Nat.le_of_ble_eq_true rfl)⟩ ⟨(Nat.le_of_ble_eq_true rfl), (Nat.le_of_ble_eq_true rfl)⟩ dX2_house_48 (fun _ _ z => False.elim z) (fun v9 ws9 h10 => ?_)
  obtain ⟨r12, K13, hK13, rfl, hw9⟩ := h10
  subst ws9
  dsimp only [mPush]
  exact r_iret hX hE dX2_house_51 (Nat.le_of_ble_eq_true rfl) (Nat.le_of_ble_eq_true rfl) ⟨_, K13, (hK13.trans rfl), rfl, rfl⟩
set_option maxHeartbeats 4000000 in
set_option maxRecDepth 20000 in
theorem c_X2_house (ad : Nat → Nat) (cs : ClassId × ClassId × ClassId) (K : mK) (rest : va_W) (p0 : Int32) : mCt (mTy cs) yX2_house cX2_house 2 (some .int) ⟨7, 1, 6, 104⟩ [.ref (ad 0), .int p0] (mWd ad cs K rest) (mWi ad cs K rest) (mTh [xA] (mWd ad cs K rest)) := by
  refine mCt.of (by decide +kernel) (Nat.le_of_ble_eq_true rfl) (fun X hX hE => ?_)
  have hX : mOK X RX2 cX2_house 2 ⟨7, 1, 6, 104⟩ [] (mTy cs) := hX
  refine r_iload_n hX dX2_house_0 rfl rfl ?_
  refine r_iconst (v := 0) hX dX2_house_1 (by decide) ?_
  refine r_iconst (v := 3) hX dX2_house_2 (by decide) ?_
  refine r_callS hX (c_X2_requireWithin _ _ _ _ _) ks_X2_40 rfl rfl (Nat.le_of_ble_eq_true rfl) ⟨(Nat.le_of_ble_eq_true rfl), (Nat.le_of_ble_eq_true rfl)⟩ ⟨(Nat.le_of_ble_eq_true rfl), (Nat.le_of_ble_eq_true rfl)⟩ dX2_house_3 (fun E ws9 z => r_out hX hE (Nat.le_of_ble_eq_true rfl) (Nat.le_of_ble_eq_true rfl) (⟨by rw [z.1]; exact List.mem_cons_self, z.2.1⟩)) (fun v9 ws9 h1 => ?_)
  obtain ⟨a3, rfl, hw9⟩ := h1
  subst ws9
  dsimp only [mPush]
  refine r_iload_n hX dX2_house_6 rfl rfl ?_
  by_cases s4 : p0.toInt = 0
  · refine r_tableIn (off := 25) (tgt := 32) hX dX2_house_7 (by omega) (by omega) (by rw [s4]; rfl) (by decide) ?_
    refine r_aload_n hX dX2_house_32 rfl rfl ?_
    refine r_get hX kf_X2_196 0 rfl rfl dX2_house_33 ?_
    exact r_iret hX hE dX2_house_36 (Nat.le_of_ble_eq_true rfl) (Nat.le_of_ble_eq_true rfl) ⟨_, K, rfl, rfl, rfl⟩
  by_cases s5 : p0.toInt = 1
  · refine r_tableIn (off := 30) (tgt := 37) hX dX2_house_7 (by omega) (by omega) (by rw [s5]; rfl) (by decide) ?_
    refine r_aload_n hX dX2_house_37 rfl rfl ?_
    refine r_get hX kf_X2_199 0 rfl rfl dX2_house_38 ?_
    exact r_iret hX hE dX2_house_41 (Nat.le_of_ble_eq_true rfl) (Nat.le_of_ble_eq_true rfl) ⟨_, K, rfl, rfl, rfl⟩
  by_cases s6 : p0.toInt = 2
  · refine r_tableIn (off := 35) (tgt := 42) hX dX2_house_7 (by omega) (by omega) (by rw [s6]; rfl) (by decide) ?_
    refine r_aload_n hX dX2_house_42 rfl rfl ?_
    refine r_callV hX (c_X2_firstDated _ _ _ _) kv_X2_202 0 rfl rfl rfl rfl (Nat.le_of_ble_eq_true rfl) ⟨(Nat.le_of_ble_eq_true rfl), (Nat.le_of_ble_eq_true rfl)⟩ ⟨(Nat.le_of_ble_eq_true rfl), (Nat.le_of_ble_eq_true rfl)⟩ dX2_house_43 (fun _ _ z => False.elim z) (fun v9 ws9 h7 => ?_)
    obtain ⟨r9, K10, hK10, rfl, hw9⟩ := h7
    subst ws9
    dsimp only [mPush]
    exact r_iret hX hE dX2_house_46 (Nat.le_of_ble_eq_true rfl) (Nat.le_of_ble_eq_true rfl) ⟨_, K10, (hK10.trans rfl), rfl, rfl⟩
  refine r_tableOut (tgt := 47) hX dX2_house_7 (by omega) (by decide) ?_
  refine r_aload_n hX dX2_house_47 rfl rfl ?_
  refine r_callV hX (c_X2_firstMoment _ _ _ _) kv_X2_205 0 rfl rfl rfl rfl (Nat.le_of_ble_eq_true rfl) ⟨(Nat.le_of_ble_eq_true rfl), (Nat.le_of_ble_eq_true rfl)⟩ ⟨(Nat.le_of_ble_eq_true rfl), (Nat.le_of_ble_eq_true rfl)⟩ dX2_house_48 (fun _ _ z => False.elim z) (fun v9 ws9 h11 => ?_)
  obtain ⟨r13, K14, hK14, rfl, hw9⟩ := h11
  subst ws9
  dsimp only [mPush]
  exact r_iret hX hE dX2_house_51 (Nat.le_of_ble_eq_true rfl) (Nat.le_of_ble_eq_true rfl) ⟨_, K14, (hK14.trans rfl), rfl, rfl⟩
theorem dX2_withOffsets_0 : decode cX2_withOffsets 0 = .ok (.lload_n 1, 1) := by decide +kernel
theorem dX2_withOffsets_1 : decode cX2_withOffsets 1 = .ok (.lstore_n 3, 1) := by decide +kernel
theorem dX2_withOffsets_2 : decode cX2_withOffsets 2 = .ok (.iconst 0, 1) := by decide +kernel
theorem dX2_withOffsets_3 : decode cX2_withOffsets 3 = .ok (.istore 5, 2) := by decide +kernel
theorem dX2_withOffsets_5 : decode cX2_withOffsets 5 = .ok (.iload 5, 2) := by decide +kernel
theorem dX2_withOffsets_7 : decode cX2_withOffsets 7 = .ok (.aload_n 0, 1) := by decide +kernel
theorem dX2_withOffsets_8 : decode cX2_withOffsets 8 = .ok (.getfield 9, 3) := by decide +kernel
theorem dX2_withOffsets_11 : decode cX2_withOffsets 11 = .ok (.arraylength, 1) := by decide +kernel
theorem dX2_withOffsets_12 : decode cX2_withOffsets 12 = .ok (.if_icmp .ge 21, 3) := by decide +kernel
theorem dX2_withOffsets_15 : decode cX2_withOffsets 15 = .ok (.lload_n 3, 1) := by decide +kernel
theorem dX2_withOffsets_16 : decode cX2_withOffsets 16 = .ok (.aload_n 0, 1) := by decide +kernel
theorem dX2_withOffsets_17 : decode cX2_withOffsets 17 = .ok (.iload 5, 2) := by decide +kernel
theorem dX2_withOffsets_19 : decode cX2_withOffsets 19 = .ok (.invokevirtual 64, 3) := by decide +kernel
theorem dX2_withOffsets_22 : decode cX2_withOffsets 22 = .ok (.i2l, 1) := by decide +kernel
theorem dX2_withOffsets_23 : decode cX2_withOffsets 23 = .ok (.invokestatic 247, 3) := by decide +kernel
theorem dX2_withOffsets_26 : decode cX2_withOffsets 26 = .ok (.lstore_n 3, 1) := by decide +kernel
theorem dX2_withOffsets_27 : decode cX2_withOffsets 27 = .ok (.iinc 5 1, 3) := by decide +kernel
theorem dX2_withOffsets_30 : decode cX2_withOffsets 30 = .ok (.goto (-25), 3) := by decide +kernel
theorem dX2_withOffsets_33 : decode cX2_withOffsets 33 = .ok (.lload_n 3, 1) := by decide +kernel
theorem dX2_withOffsets_34 : decode cX2_withOffsets 34 = .ok (.lreturn, 1) := by decide +kernel
set_option maxHeartbeats 4000000 in
set_option maxRecDepth 20000 in
theorem c_X2_withOffsets (ad : Nat → Nat) (cs : ClassId × ClassId × ClassId) (K : mK) (rest : va_W) (p0 : Int64) : mCt (mTy cs) yX2_withOffsets cX2_withOffsets 6 (some .long) ⟨2, 0, 0, 42⟩ [.ref (ad 0), .long p0] (mWd ad cs K rest) (mWl ad cs K rest) mNo := by
  refine mCt.of (by decide +kernel) (Nat.le_of_ble_eq_true rfl) (fun X hX hE => ?_)
  have hX : mOK X RX2 cX2_withOffsets 6 ⟨2, 0, 0, 42⟩ [] (mTy cs) := hX
  refine r_lload_n hX dX2_withOffsets_0 rfl rfl ?_
  refine r_lstore_n hX dX2_withOffsets_1 rfl (by decide) rfl ?_
  refine r_iconst (v := 0) hX dX2_withOffsets_2 (by decide) ?_
  refine r_istore hX dX2_withOffsets_3 (by decide) rfl ?_
  have L5 : ∀ (N4 j1 : Nat) (x2 : Int64), 4 - j1 < N4 → j1 ≤ 4 → ∀ K3 : mK, K3.1 = K.1 → mV X 5 [(0, some (.ref (ad 0))), (1, some (.long p0)), (3, some (.long x2)), (5, some (.int (nI j1)))] [] (mWd ad cs K3 rest) 0 0 := by
    intro N4
    induction N4 with
    | zero => intro j1 x2; omega
    | succ N4 ih5 =>
      intro j1 x2 hN5 hj1e K3 hK3
      refine r_iload hX dX2_withOffsets_5 rfl ?_
      refine r_aload_n hX dX2_withOffsets_7 rfl rfl ?_
      refine r_get hX kf_X2_9 0 rfl rfl dX2_withOffsets_8 ?_
      refine r_alen (v := nI 4) hX 1 0 rfl rfl rfl dX2_withOffsets_11 ?_
      refine r_icmp_ge (tgt := 33) hX dX2_withOffsets_12 (by decide) (fun c5 => ?_) (fun c5 => ?_)
      · refine r_lload_n hX dX2_withOffsets_33 rfl rfl ?_
        exact r_lret hX hE dX2_withOffsets_34 (Nat.le_of_ble_eq_true rfl) (Nat.le_of_ble_eq_true rfl) ⟨_, K3, hK3, rfl, rfl⟩
      · have hj1 : j1 < 4 := mlt (by first | rfl | decide) (by decide) hj1e c5
        refine r_lload_n hX dX2_withOffsets_15 rfl rfl ?_
        refine r_aload_n hX dX2_withOffsets_16 rfl rfl ?_
        refine r_iload hX dX2_withOffsets_17 rfl ?_
        refine r_callV hX (c_X2_seconds_ok _ _ _ _ j1 hj1) kv_X2_64 0 rfl rfl rfl rfl (Nat.le_of_ble_eq_true rfl) ⟨(Nat.le_of_ble_eq_true rfl), (Nat.le_of_ble_eq_true rfl)⟩ ⟨(Nat.le_of_ble_eq_true rfl), (Nat.le_of_ble_eq_true rfl)⟩ dX2_withOffsets_19 (fun _ _ z => False.elim z) (fun v9 ws9 h6 => ?_)
        obtain ⟨rfl, hw9⟩ := h6
        subst ws9
        dsimp only [mPush]
        refine r_i2l hX dX2_withOffsets_22 ?_
        refine r_callS hX (c_X2_added _ _ _ _) ks_X2_247 rfl rfl (Nat.le_of_ble_eq_true rfl) ⟨(Nat.le_of_ble_eq_true rfl), (Nat.le_of_ble_eq_true rfl)⟩ ⟨(Nat.le_of_ble_eq_true rfl), (Nat.le_of_ble_eq_true rfl)⟩ dX2_withOffsets_23 (fun _ _ z => False.elim z) (fun v9 ws9 h8 => ?_)
        obtain ⟨r10, rfl, hw9⟩ := h8
        subst ws9
        dsimp only [mPush]
        refine r_lstore_n hX dX2_withOffsets_26 rfl (by decide) rfl ?_
        refine r_iinc hX dX2_withOffsets_27 rfl (by decide) rfl ?_
        refine r_goto (tgt := 5) hX dX2_withOffsets_30 (by decide) ?_
        exact r_loc (k' := 0) (n' := 0) (by exact ⟨rfl, rfl, rfl, nI_inc' _, trivial⟩) (by decide) (by decide) (ih5 (j1 + 1) _ (by omega) (by omega) _ hK3)
  exact r_loc (k' := 0) (n' := 0) (by exact ⟨rfl, rfl, rfl, rfl, trivial⟩) (by decide) (by decide) (L5 (4 + 1) 0 _ (by omega) (by omega) _ rfl)
theorem dX2_withMoments_0 : decode cX2_withMoments 0 = .ok (.lload_n 1, 1) := by decide +kernel
theorem dX2_withMoments_1 : decode cX2_withMoments 1 = .ok (.lstore_n 3, 1) := by decide +kernel
theorem dX2_withMoments_2 : decode cX2_withMoments 2 = .ok (.iconst 0, 1) := by decide +kernel
theorem dX2_withMoments_3 : decode cX2_withMoments 3 = .ok (.istore 5, 2) := by decide +kernel
theorem dX2_withMoments_5 : decode cX2_withMoments 5 = .ok (.iload 5, 2) := by decide +kernel
theorem dX2_withMoments_7 : decode cX2_withMoments 7 = .ok (.aload_n 0, 1) := by decide +kernel
theorem dX2_withMoments_8 : decode cX2_withMoments 8 = .ok (.getfield 13, 3) := by decide +kernel
theorem dX2_withMoments_11 : decode cX2_withMoments 11 = .ok (.arraylength, 1) := by decide +kernel
theorem dX2_withMoments_12 : decode cX2_withMoments 12 = .ok (.if_icmp .ge 35, 3) := by decide +kernel
theorem dX2_withMoments_15 : decode cX2_withMoments 15 = .ok (.lload_n 3, 1) := by decide +kernel
theorem dX2_withMoments_16 : decode cX2_withMoments 16 = .ok (.aload_n 0, 1) := by decide +kernel
theorem dX2_withMoments_17 : decode cX2_withMoments 17 = .ok (.iload 5, 2) := by decide +kernel
theorem dX2_withMoments_19 : decode cX2_withMoments 19 = .ok (.iconst 0, 1) := by decide +kernel
theorem dX2_withMoments_20 : decode cX2_withMoments 20 = .ok (.invokevirtual 376, 3) := by decide +kernel
theorem dX2_withMoments_23 : decode cX2_withMoments 23 = .ok (.i2l, 1) := by decide +kernel
theorem dX2_withMoments_24 : decode cX2_withMoments 24 = .ok (.invokestatic 247, 3) := by decide +kernel
theorem dX2_withMoments_27 : decode cX2_withMoments 27 = .ok (.lstore_n 3, 1) := by decide +kernel
theorem dX2_withMoments_28 : decode cX2_withMoments 28 = .ok (.lload_n 3, 1) := by decide +kernel
theorem dX2_withMoments_29 : decode cX2_withMoments 29 = .ok (.aload_n 0, 1) := by decide +kernel
theorem dX2_withMoments_30 : decode cX2_withMoments 30 = .ok (.iload 5, 2) := by decide +kernel
theorem dX2_withMoments_32 : decode cX2_withMoments 32 = .ok (.iconst 1, 1) := by decide +kernel
theorem dX2_withMoments_33 : decode cX2_withMoments 33 = .ok (.invokevirtual 376, 3) := by decide +kernel
theorem dX2_withMoments_36 : decode cX2_withMoments 36 = .ok (.i2l, 1) := by decide +kernel
theorem dX2_withMoments_37 : decode cX2_withMoments 37 = .ok (.invokestatic 247, 3) := by decide +kernel
theorem dX2_withMoments_40 : decode cX2_withMoments 40 = .ok (.lstore_n 3, 1) := by decide +kernel
theorem dX2_withMoments_41 : decode cX2_withMoments 41 = .ok (.iinc 5 1, 3) := by decide +kernel
theorem dX2_withMoments_44 : decode cX2_withMoments 44 = .ok (.goto (-39), 3) := by decide +kernel
theorem dX2_withMoments_47 : decode cX2_withMoments 47 = .ok (.lload_n 3, 1) := by decide +kernel
theorem dX2_withMoments_48 : decode cX2_withMoments 48 = .ok (.lreturn, 1) := by decide +kernel
set_option maxHeartbeats 4000000 in
set_option maxRecDepth 20000 in
theorem c_X2_withMoments (ad : Nat → Nat) (cs : ClassId × ClassId × ClassId) (K : mK) (rest : va_W) (p0 : Int64) : mCt (mTy cs) yX2_withMoments cX2_withMoments 6 (some .long) ⟨3, 0, 0, 68⟩ [.ref (ad 0), .long p0] (mWd ad cs K rest) (mWl ad cs K rest) mNo := by
  refine mCt.of (by decide +kernel) (Nat.le_of_ble_eq_true rfl) (fun X hX hE => ?_)
  have hX : mOK X RX2 cX2_withMoments 6 ⟨3, 0, 0, 68⟩ [] (mTy cs) := hX
  refine r_lload_n hX dX2_withMoments_0 rfl rfl ?_
  refine r_lstore_n hX dX2_withMoments_1 rfl (by decide) rfl ?_
  refine r_iconst (v := 0) hX dX2_withMoments_2 (by decide) ?_
  refine r_istore hX dX2_withMoments_3 (by decide) rfl ?_
  have L5 : ∀ (N4 j1 : Nat) (x2 : Int64), 4 - j1 < N4 → j1 ≤ 4 → ∀ K3 : mK, K3.1 = K.1 → mV X 5 [(0, some (.ref (ad 0))), (1, some (.long p0)), (3, some (.long x2)), (5, some (.int (nI j1)))] [] (mWd ad cs K3 rest) 0 0 := by
    intro N4
    induction N4 with
    | zero => intro j1 x2; omega
    | succ N4 ih5 =>
      intro j1 x2 hN5 hj1e K3 hK3
      refine r_iload hX dX2_withMoments_5 rfl ?_
      refine r_aload_n hX dX2_withMoments_7 rfl rfl ?_
      refine r_get hX kf_X2_13 0 rfl rfl dX2_withMoments_8 ?_
      refine r_alen (v := nI 4) hX 2 1 rfl rfl rfl dX2_withMoments_11 ?_
      refine r_icmp_ge (tgt := 47) hX dX2_withMoments_12 (by decide) (fun c5 => ?_) (fun c5 => ?_)
      · refine r_lload_n hX dX2_withMoments_47 rfl rfl ?_
        exact r_lret hX hE dX2_withMoments_48 (Nat.le_of_ble_eq_true rfl) (Nat.le_of_ble_eq_true rfl) ⟨_, K3, hK3, rfl, rfl⟩
      · have hj1 : j1 < 4 := mlt (by first | rfl | decide) (by decide) hj1e c5
        refine r_lload_n hX dX2_withMoments_15 rfl rfl ?_
        refine r_aload_n hX dX2_withMoments_16 rfl rfl ?_
        refine r_iload hX dX2_withMoments_17 rfl ?_
        refine r_iconst (v := 0) hX dX2_withMoments_19 (by decide) ?_
        refine r_callV hX (c_X2_ofMoment_ok _ _ _ _ j1 hj1 _) kv_X2_376 0 rfl rfl rfl rfl (Nat.le_of_ble_eq_true rfl) ⟨(Nat.le_of_ble_eq_true rfl), (Nat.le_of_ble_eq_true rfl)⟩ ⟨(Nat.le_of_ble_eq_true rfl), (Nat.le_of_ble_eq_true rfl)⟩ dX2_withMoments_20 (fun _ _ z => False.elim z) (fun v9 ws9 h6 => ?_)
        obtain ⟨r8, K9, hK9, rfl, hw9⟩ := h6
        subst ws9
        dsimp only [mPush]
        refine r_i2l hX dX2_withMoments_23 ?_
        refine r_callS hX (c_X2_added _ _ _ _) ks_X2_247 rfl rfl (Nat.le_of_ble_eq_true rfl) ⟨(Nat.le_of_ble_eq_true rfl), (Nat.le_of_ble_eq_true rfl)⟩ ⟨(Nat.le_of_ble_eq_true rfl), (Nat.le_of_ble_eq_true rfl)⟩ dX2_withMoments_24 (fun _ _ z => False.elim z) (fun v9 ws9 h10 => ?_)
        obtain ⟨r12, rfl, hw9⟩ := h10
        subst ws9
        dsimp only [mPush]
        refine r_lstore_n hX dX2_withMoments_27 rfl (by decide) rfl ?_
        refine r_lload_n hX dX2_withMoments_28 rfl rfl ?_
        refine r_aload_n hX dX2_withMoments_29 rfl rfl ?_
        refine r_iload hX dX2_withMoments_30 rfl ?_
        refine r_iconst (v := 1) hX dX2_withMoments_32 (by decide) ?_
        refine r_callV hX (c_X2_ofMoment_ok _ _ _ _ j1 hj1 _) kv_X2_376 0 rfl rfl rfl rfl (Nat.le_of_ble_eq_true rfl) ⟨(Nat.le_of_ble_eq_true rfl), (Nat.le_of_ble_eq_true rfl)⟩ ⟨(Nat.le_of_ble_eq_true rfl), (Nat.le_of_ble_eq_true rfl)⟩ dX2_withMoments_33 (fun _ _ z => False.elim z) (fun v9 ws9 h13 => ?_)
        obtain ⟨r15, K16, hK16, rfl, hw9⟩ := h13
        subst ws9
        dsimp only [mPush]
        refine r_i2l hX dX2_withMoments_36 ?_
        refine r_callS hX (c_X2_added _ _ _ _) ks_X2_247 rfl rfl (Nat.le_of_ble_eq_true rfl) ⟨(Nat.le_of_ble_eq_true rfl), (Nat.le_of_ble_eq_true rfl)⟩ ⟨(Nat.le_of_ble_eq_true rfl), (Nat.le_of_ble_eq_true rfl)⟩ dX2_withMoments_37 (fun _ _ z => False.elim z) (fun v9 ws9 h17 => ?_)
        obtain ⟨r19, rfl, hw9⟩ := h17
        subst ws9
        dsimp only [mPush]
        refine r_lstore_n hX dX2_withMoments_40 rfl (by decide) rfl ?_
        refine r_iinc hX dX2_withMoments_41 rfl (by decide) rfl ?_
        refine r_goto (tgt := 5) hX dX2_withMoments_44 (by decide) ?_
        exact r_loc (k' := 0) (n' := 0) (by exact ⟨rfl, rfl, rfl, nI_inc' _, trivial⟩) (by decide) (by decide) (ih5 (j1 + 1) _ (by omega) (by omega) _ (hK16.trans (hK9.trans hK3)))
  exact r_loc (k' := 0) (n' := 0) (by exact ⟨rfl, rfl, rfl, rfl, trivial⟩) (by decide) (by decide) (L5 (4 + 1) 0 _ (by omega) (by omega) _ rfl)
theorem dX2_withDates_0 : decode cX2_withDates 0 = .ok (.lload_n 1, 1) := by decide +kernel
theorem dX2_withDates_1 : decode cX2_withDates 1 = .ok (.lstore_n 3, 1) := by decide +kernel
theorem dX2_withDates_2 : decode cX2_withDates 2 = .ok (.iconst 0, 1) := by decide +kernel
theorem dX2_withDates_3 : decode cX2_withDates 3 = .ok (.istore 5, 2) := by decide +kernel
theorem dX2_withDates_5 : decode cX2_withDates 5 = .ok (.iload 5, 2) := by decide +kernel
theorem dX2_withDates_7 : decode cX2_withDates 7 = .ok (.aload_n 0, 1) := by decide +kernel
theorem dX2_withDates_8 : decode cX2_withDates 8 = .ok (.getfield 20, 3) := by decide +kernel
theorem dX2_withDates_11 : decode cX2_withDates 11 = .ok (.arraylength, 1) := by decide +kernel
theorem dX2_withDates_12 : decode cX2_withDates 12 = .ok (.if_icmp .ge 45, 3) := by decide +kernel
theorem dX2_withDates_15 : decode cX2_withDates 15 = .ok (.iconst 0, 1) := by decide +kernel
theorem dX2_withDates_16 : decode cX2_withDates 16 = .ok (.istore 6, 2) := by decide +kernel
theorem dX2_withDates_18 : decode cX2_withDates 18 = .ok (.iload 6, 2) := by decide +kernel
theorem dX2_withDates_20 : decode cX2_withDates 20 = .ok (.bipush 13, 2) := by decide +kernel
theorem dX2_withDates_22 : decode cX2_withDates 22 = .ok (.if_icmp .ge 29, 3) := by decide +kernel
theorem dX2_withDates_25 : decode cX2_withDates 25 = .ok (.lload_n 3, 1) := by decide +kernel
theorem dX2_withDates_26 : decode cX2_withDates 26 = .ok (.aload_n 0, 1) := by decide +kernel
theorem dX2_withDates_27 : decode cX2_withDates 27 = .ok (.getfield 20, 3) := by decide +kernel
theorem dX2_withDates_30 : decode cX2_withDates 30 = .ok (.iload 5, 2) := by decide +kernel
theorem dX2_withDates_32 : decode cX2_withDates 32 = .ok (.invokestatic 84, 3) := by decide +kernel
theorem dX2_withDates_35 : decode cX2_withDates 35 = .ok (.iload 6, 2) := by decide +kernel
theorem dX2_withDates_37 : decode cX2_withDates 37 = .ok (.invokestatic 175, 3) := by decide +kernel
theorem dX2_withDates_40 : decode cX2_withDates 40 = .ok (.i2l, 1) := by decide +kernel
theorem dX2_withDates_41 : decode cX2_withDates 41 = .ok (.invokestatic 247, 3) := by decide +kernel
theorem dX2_withDates_44 : decode cX2_withDates 44 = .ok (.lstore_n 3, 1) := by decide +kernel
theorem dX2_withDates_45 : decode cX2_withDates 45 = .ok (.iinc 6 1, 3) := by decide +kernel
theorem dX2_withDates_48 : decode cX2_withDates 48 = .ok (.goto (-30), 3) := by decide +kernel
theorem dX2_withDates_51 : decode cX2_withDates 51 = .ok (.iinc 5 1, 3) := by decide +kernel
theorem dX2_withDates_54 : decode cX2_withDates 54 = .ok (.goto (-49), 3) := by decide +kernel
theorem dX2_withDates_57 : decode cX2_withDates 57 = .ok (.lload_n 3, 1) := by decide +kernel
theorem dX2_withDates_58 : decode cX2_withDates 58 = .ok (.lreturn, 1) := by decide +kernel
set_option maxHeartbeats 4000000 in
set_option maxRecDepth 20000 in
theorem c_X2_withDates (ad : Nat → Nat) (cs : ClassId × ClassId × ClassId) (K : mK) (rest : va_W) (p0 : Int64) : mCt (mTy cs) yX2_withDates cX2_withDates 7 (some .long) ⟨5, 0, 0, 107⟩ [.ref (ad 0), .long p0] (mWd ad cs K rest) (mWl ad cs K rest) mNo := by
  refine mCt.of (by decide +kernel) (Nat.le_of_ble_eq_true rfl) (fun X hX hE => ?_)
  have hX : mOK X RX2 cX2_withDates 7 ⟨5, 0, 0, 107⟩ [] (mTy cs) := hX
  refine r_lload_n hX dX2_withDates_0 rfl rfl ?_
  refine r_lstore_n hX dX2_withDates_1 rfl (by decide) rfl ?_
  refine r_iconst (v := 0) hX dX2_withDates_2 (by decide) ?_
  refine r_istore hX dX2_withDates_3 (by decide) rfl ?_
  have L5 : ∀ (N4 j1 : Nat) (x2 : Int64), 4 - j1 < N4 → j1 ≤ 4 → ∀ K3 : mK, K3.1 = K.1 → mV X 5 [(0, some (.ref (ad 0))), (1, some (.long p0)), (3, some (.long x2)), (5, some (.int (nI j1)))] [] (mWd ad cs K3 rest) 0 0 := by
    intro N4
    induction N4 with
    | zero => intro j1 x2; omega
    | succ N4 ih5 =>
      intro j1 x2 hN5 hj1e K3 hK3
      refine r_iload hX dX2_withDates_5 rfl ?_
      refine r_aload_n hX dX2_withDates_7 rfl rfl ?_
      refine r_get hX kf_X2_20 0 rfl rfl dX2_withDates_8 ?_
      refine r_alen (v := nI 4) hX 3 2 rfl rfl rfl dX2_withDates_11 ?_
      refine r_icmp_ge (tgt := 57) hX dX2_withDates_12 (by decide) (fun c5 => ?_) (fun c5 => ?_)
      · refine r_lload_n hX dX2_withDates_57 rfl rfl ?_
        exact r_lret hX hE dX2_withDates_58 (Nat.le_of_ble_eq_true rfl) (Nat.le_of_ble_eq_true rfl) ⟨_, K3, hK3, rfl, rfl⟩
      · have hj1 : j1 < 4 := mlt (by first | rfl | decide) (by decide) hj1e c5
        refine r_iconst (v := 0) hX dX2_withDates_15 (by decide) ?_
        refine r_istore hX dX2_withDates_16 (by decide) rfl ?_
        have L18 : ∀ (N9 j6 : Nat) (x7 : Int64), 13 - j6 < N9 → j6 ≤ 13 → ∀ K8 : mK, K8.1 = K.1 → mV X 18 [(0, some (.ref (ad 0))), (1, some (.long p0)), (3, some (.long x7)), (5, some (.int (nI j1))), (6, some (.int (nI j6)))] [] (mWd ad cs K8 rest) 0 0 := by
          intro N9
          induction N9 with
          | zero => intro j6 x7; omega
          | succ N9 ih18 =>
            intro j6 x7 hN18 hj6e K8 hK8
            refine r_iload hX dX2_withDates_18 rfl ?_
            refine r_bipush (v := 13) hX dX2_withDates_20 (by decide) ?_
            refine r_icmp_ge (tgt := 51) hX dX2_withDates_22 (by decide) (fun c10 => ?_) (fun c10 => ?_)
            · refine r_iinc hX dX2_withDates_51 rfl (by decide) rfl ?_
              refine r_goto (tgt := 5) hX dX2_withDates_54 (by decide) ?_
              exact r_loc (k' := 0) (n' := 0) (by exact ⟨rfl, rfl, rfl, nI_inc' _, trivial⟩) (by decide) (by decide) (ih5 (j1 + 1) _ (by omega) (by omega) _ hK8)
            · have hj6 : j6 < 13 := mlt (by first | rfl | decide) (by decide) hj6e c10
              refine r_lload_n hX dX2_withDates_25 rfl rfl ?_
              refine r_aload_n hX dX2_withDates_26 rfl rfl ?_
              refine r_get hX kf_X2_20 0 rfl rfl dX2_withDates_27 ?_
              refine r_iload hX dX2_withDates_30 rfl ?_
              refine r_callS hX (c_X2_at_ok ad cs _ 3 _ 4 0 rfl (by decide) j1 hj1) ks_X2_84 rfl rfl (Nat.le_of_ble_eq_true rfl) ⟨(Nat.le_of_ble_eq_true rfl), (Nat.le_of_ble_eq_true rfl)⟩ ⟨(Nat.le_of_ble_eq_true rfl), (Nat.le_of_ble_eq_true rfl)⟩ dX2_withDates_32 (fun _ _ z => False.elim z) (fun v9 ws9 h11 => ?_)
              obtain ⟨rfl, hw9⟩ := h11
              subst ws9
              dsimp only [mPush]
              refine r_iload hX dX2_withDates_35 rfl ?_
              refine r_callS hX (c_X2_datePart _ _ (j1 + 5) _ _ _ _ (mWd_loc (d := j1) (by omega)) _) ks_X2_175 rfl rfl (Nat.le_of_ble_eq_true rfl) ⟨(Nat.le_of_ble_eq_true rfl), (Nat.le_of_ble_eq_true rfl)⟩ ⟨(Nat.le_of_ble_eq_true rfl), (Nat.le_of_ble_eq_true rfl)⟩ dX2_withDates_37 (fun _ _ z => False.elim z) (fun v9 ws9 h13 => ?_)
              obtain ⟨r15, rfl, hw9⟩ := h13
              subst ws9
              dsimp only [mPush]
              refine r_i2l hX dX2_withDates_40 ?_
              refine r_callS hX (c_X2_added _ _ _ _) ks_X2_247 rfl rfl (Nat.le_of_ble_eq_true rfl) ⟨(Nat.le_of_ble_eq_true rfl), (Nat.le_of_ble_eq_true rfl)⟩ ⟨(Nat.le_of_ble_eq_true rfl), (Nat.le_of_ble_eq_true rfl)⟩ dX2_withDates_41 (fun _ _ z => False.elim z) (fun v9 ws9 h16 => ?_)
              obtain ⟨r18, rfl, hw9⟩ := h16
              subst ws9
              dsimp only [mPush]
              refine r_lstore_n hX dX2_withDates_44 rfl (by decide) rfl ?_
              refine r_iinc hX dX2_withDates_45 rfl (by decide) rfl ?_
              refine r_goto (tgt := 18) hX dX2_withDates_48 (by decide) ?_
              exact r_loc (k' := 0) (n' := 0) (by exact ⟨rfl, rfl, rfl, rfl, nI_inc' _, trivial⟩) (by decide) (by decide) (ih18 (j6 + 1) _ (by omega) (by omega) _ hK8)
        exact r_loc (k' := 0) (n' := 0) (by exact ⟨rfl, rfl, rfl, rfl, rfl, trivial⟩) (by decide) (by decide) (L18 (13 + 1) 0 _ (by omega) (by omega) _ hK3)
  exact r_loc (k' := 0) (n' := 0) (by exact ⟨rfl, rfl, rfl, rfl, trivial⟩) (by decide) (by decide) (L5 (4 + 1) 0 _ (by omega) (by omega) _ rfl)
theorem dX2_withClocks_0 : decode cX2_withClocks 0 = .ok (.lload_n 1, 1) := by decide +kernel
theorem dX2_withClocks_1 : decode cX2_withClocks 1 = .ok (.lstore_n 3, 1) := by decide +kernel
theorem dX2_withClocks_2 : decode cX2_withClocks 2 = .ok (.iconst 0, 1) := by decide +kernel
theorem dX2_withClocks_3 : decode cX2_withClocks 3 = .ok (.istore 5, 2) := by decide +kernel
theorem dX2_withClocks_5 : decode cX2_withClocks 5 = .ok (.iload 5, 2) := by decide +kernel
theorem dX2_withClocks_7 : decode cX2_withClocks 7 = .ok (.aload_n 0, 1) := by decide +kernel
theorem dX2_withClocks_8 : decode cX2_withClocks 8 = .ok (.getfield 24, 3) := by decide +kernel
theorem dX2_withClocks_11 : decode cX2_withClocks 11 = .ok (.arraylength, 1) := by decide +kernel
theorem dX2_withClocks_12 : decode cX2_withClocks 12 = .ok (.if_icmp .ge 45, 3) := by decide +kernel
theorem dX2_withClocks_15 : decode cX2_withClocks 15 = .ok (.iconst 0, 1) := by decide +kernel
theorem dX2_withClocks_16 : decode cX2_withClocks 16 = .ok (.istore 6, 2) := by decide +kernel
theorem dX2_withClocks_18 : decode cX2_withClocks 18 = .ok (.iload 6, 2) := by decide +kernel
theorem dX2_withClocks_20 : decode cX2_withClocks 20 = .ok (.bipush 6, 2) := by decide +kernel
theorem dX2_withClocks_22 : decode cX2_withClocks 22 = .ok (.if_icmp .ge 29, 3) := by decide +kernel
theorem dX2_withClocks_25 : decode cX2_withClocks 25 = .ok (.lload_n 3, 1) := by decide +kernel
theorem dX2_withClocks_26 : decode cX2_withClocks 26 = .ok (.aload_n 0, 1) := by decide +kernel
theorem dX2_withClocks_27 : decode cX2_withClocks 27 = .ok (.getfield 24, 3) := by decide +kernel
theorem dX2_withClocks_30 : decode cX2_withClocks 30 = .ok (.iload 5, 2) := by decide +kernel
theorem dX2_withClocks_32 : decode cX2_withClocks 32 = .ok (.invokestatic 84, 3) := by decide +kernel
theorem dX2_withClocks_35 : decode cX2_withClocks 35 = .ok (.iload 6, 2) := by decide +kernel
theorem dX2_withClocks_37 : decode cX2_withClocks 37 = .ok (.invokestatic 193, 3) := by decide +kernel
theorem dX2_withClocks_40 : decode cX2_withClocks 40 = .ok (.i2l, 1) := by decide +kernel
theorem dX2_withClocks_41 : decode cX2_withClocks 41 = .ok (.invokestatic 247, 3) := by decide +kernel
theorem dX2_withClocks_44 : decode cX2_withClocks 44 = .ok (.lstore_n 3, 1) := by decide +kernel
theorem dX2_withClocks_45 : decode cX2_withClocks 45 = .ok (.iinc 6 1, 3) := by decide +kernel
theorem dX2_withClocks_48 : decode cX2_withClocks 48 = .ok (.goto (-30), 3) := by decide +kernel
theorem dX2_withClocks_51 : decode cX2_withClocks 51 = .ok (.iinc 5 1, 3) := by decide +kernel
theorem dX2_withClocks_54 : decode cX2_withClocks 54 = .ok (.goto (-49), 3) := by decide +kernel
theorem dX2_withClocks_57 : decode cX2_withClocks 57 = .ok (.lload_n 3, 1) := by decide +kernel
theorem dX2_withClocks_58 : decode cX2_withClocks 58 = .ok (.lreturn, 1) := by decide +kernel
set_option maxHeartbeats 4000000 in
set_option maxRecDepth 20000 in
theorem c_X2_withClocks (ad : Nat → Nat) (cs : ClassId × ClassId × ClassId) (K : mK) (rest : va_W) (p0 : Int64) : mCt (mTy cs) yX2_withClocks cX2_withClocks 7 (some .long) ⟨4, 0, 0, 86⟩ [.ref (ad 0), .long p0] (mWd ad cs K rest) (mWl ad cs K rest) mNo := by
  refine mCt.of (by decide +kernel) (Nat.le_of_ble_eq_true rfl) (fun X hX hE => ?_)
  have hX : mOK X RX2 cX2_withClocks 7 ⟨4, 0, 0, 86⟩ [] (mTy cs) := hX
  refine r_lload_n hX dX2_withClocks_0 rfl rfl ?_
  refine r_lstore_n hX dX2_withClocks_1 rfl (by decide) rfl ?_
  refine r_iconst (v := 0) hX dX2_withClocks_2 (by decide) ?_
  refine r_istore hX dX2_withClocks_3 (by decide) rfl ?_
  have L5 : ∀ (N4 j1 : Nat) (x2 : Int64), 3 - j1 < N4 → j1 ≤ 3 → ∀ K3 : mK, K3.1 = K.1 → mV X 5 [(0, some (.ref (ad 0))), (1, some (.long p0)), (3, some (.long x2)), (5, some (.int (nI j1)))] [] (mWd ad cs K3 rest) 0 0 := by
    intro N4
    induction N4 with
    | zero => intro j1 x2; omega
    | succ N4 ih5 =>
      intro j1 x2 hN5 hj1e K3 hK3
      refine r_iload hX dX2_withClocks_5 rfl ?_
      refine r_aload_n hX dX2_withClocks_7 rfl rfl ?_
      refine r_get hX kf_X2_24 0 rfl rfl dX2_withClocks_8 ?_
      refine r_alen (v := nI 3) hX 4 2 rfl rfl rfl dX2_withClocks_11 ?_
      refine r_icmp_ge (tgt := 57) hX dX2_withClocks_12 (by decide) (fun c5 => ?_) (fun c5 => ?_)
      · refine r_lload_n hX dX2_withClocks_57 rfl rfl ?_
        exact r_lret hX hE dX2_withClocks_58 (Nat.le_of_ble_eq_true rfl) (Nat.le_of_ble_eq_true rfl) ⟨_, K3, hK3, rfl, rfl⟩
      · have hj1 : j1 < 3 := mlt (by first | rfl | decide) (by decide) hj1e c5
        refine r_iconst (v := 0) hX dX2_withClocks_15 (by decide) ?_
        refine r_istore hX dX2_withClocks_16 (by decide) rfl ?_
        have L18 : ∀ (N9 j6 : Nat) (x7 : Int64), 6 - j6 < N9 → j6 ≤ 6 → ∀ K8 : mK, K8.1 = K.1 → mV X 18 [(0, some (.ref (ad 0))), (1, some (.long p0)), (3, some (.long x7)), (5, some (.int (nI j1))), (6, some (.int (nI j6)))] [] (mWd ad cs K8 rest) 0 0 := by
          intro N9
          induction N9 with
          | zero => intro j6 x7; omega
          | succ N9 ih18 =>
            intro j6 x7 hN18 hj6e K8 hK8
            refine r_iload hX dX2_withClocks_18 rfl ?_
            refine r_bipush (v := 6) hX dX2_withClocks_20 (by decide) ?_
            refine r_icmp_ge (tgt := 51) hX dX2_withClocks_22 (by decide) (fun c10 => ?_) (fun c10 => ?_)
            · refine r_iinc hX dX2_withClocks_51 rfl (by decide) rfl ?_
              refine r_goto (tgt := 5) hX dX2_withClocks_54 (by decide) ?_
              exact r_loc (k' := 0) (n' := 0) (by exact ⟨rfl, rfl, rfl, nI_inc' _, trivial⟩) (by decide) (by decide) (ih5 (j1 + 1) _ (by omega) (by omega) _ hK8)
            · have hj6 : j6 < 6 := mlt (by first | rfl | decide) (by decide) hj6e c10
              refine r_lload_n hX dX2_withClocks_25 rfl rfl ?_
              refine r_aload_n hX dX2_withClocks_26 rfl rfl ?_
              refine r_get hX kf_X2_24 0 rfl rfl dX2_withClocks_27 ?_
              refine r_iload hX dX2_withClocks_30 rfl ?_
              refine r_callS hX (c_X2_at_ok ad cs _ 4 _ 3 4 rfl (by decide) j1 hj1) ks_X2_84 rfl rfl (Nat.le_of_ble_eq_true rfl) ⟨(Nat.le_of_ble_eq_true rfl), (Nat.le_of_ble_eq_true rfl)⟩ ⟨(Nat.le_of_ble_eq_true rfl), (Nat.le_of_ble_eq_true rfl)⟩ dX2_withClocks_32 (fun _ _ z => False.elim z) (fun v9 ws9 h11 => ?_)
              obtain ⟨rfl, hw9⟩ := h11
              subst ws9
              dsimp only [mPush]
              refine r_iload hX dX2_withClocks_35 rfl ?_
              refine r_callS hX (c_X2_clockPart _ _ (j1 + 4 + 5) _ _ _ _ (mWd_loc (d := j1 + 4) (by omega)) _) ks_X2_193 rfl rfl (Nat.le_of_ble_eq_true rfl) ⟨(Nat.le_of_ble_eq_true rfl), (Nat.le_of_ble_eq_true rfl)⟩ ⟨(Nat.le_of_ble_eq_true rfl), (Nat.le_of_ble_eq_true rfl)⟩ dX2_withClocks_37 (fun _ _ z => False.elim z) (fun v9 ws9 h13 => ?_)
              obtain ⟨r15, rfl, hw9⟩ := h13
              subst ws9
              dsimp only [mPush]
              refine r_i2l hX dX2_withClocks_40 ?_
              refine r_callS hX (c_X2_added _ _ _ _) ks_X2_247 rfl rfl (Nat.le_of_ble_eq_true rfl) ⟨(Nat.le_of_ble_eq_true rfl), (Nat.le_of_ble_eq_true rfl)⟩ ⟨(Nat.le_of_ble_eq_true rfl), (Nat.le_of_ble_eq_true rfl)⟩ dX2_withClocks_41 (fun _ _ z => False.elim z) (fun v9 ws9 h16 => ?_)
              obtain ⟨r18, rfl, hw9⟩ := h16
              subst ws9
              dsimp only [mPush]
              refine r_lstore_n hX dX2_withClocks_44 rfl (by decide) rfl ?_
              refine r_iinc hX dX2_withClocks_45 rfl (by decide) rfl ?_
              refine r_goto (tgt := 18) hX dX2_withClocks_48 (by decide) ?_
              exact r_loc (k' := 0) (n' := 0) (by exact ⟨rfl, rfl, rfl, rfl, nI_inc' _, trivial⟩) (by decide) (by decide) (ih18 (j6 + 1) _ (by omega) (by omega) _ hK8)
        exact r_loc (k' := 0) (n' := 0) (by exact ⟨rfl, rfl, rfl, rfl, rfl, trivial⟩) (by decide) (by decide) (L18 (6 + 1) 0 _ (by omega) (by omega) _ hK3)
  exact r_loc (k' := 0) (n' := 0) (by exact ⟨rfl, rfl, rfl, rfl, trivial⟩) (by decide) (by decide) (L5 (3 + 1) 0 _ (by omega) (by omega) _ rfl)
theorem dX2_withDatePairs_0 : decode cX2_withDatePairs 0 = .ok (.lload_n 1, 1) := by decide +kernel
theorem dX2_withDatePairs_1 : decode cX2_withDatePairs 1 = .ok (.lstore_n 3, 1) := by decide +kernel
theorem dX2_withDatePairs_2 : decode cX2_withDatePairs 2 = .ok (.iconst 0, 1) := by decide +kernel
theorem dX2_withDatePairs_3 : decode cX2_withDatePairs 3 = .ok (.istore 5, 2) := by decide +kernel
theorem dX2_withDatePairs_5 : decode cX2_withDatePairs 5 = .ok (.iload 5, 2) := by decide +kernel
theorem dX2_withDatePairs_7 : decode cX2_withDatePairs 7 = .ok (.aload_n 0, 1) := by decide +kernel
theorem dX2_withDatePairs_8 : decode cX2_withDatePairs 8 = .ok (.getfield 20, 3) := by decide +kernel
theorem dX2_withDatePairs_11 : decode cX2_withDatePairs 11 = .ok (.arraylength, 1) := by decide +kernel
theorem dX2_withDatePairs_12 : decode cX2_withDatePairs 12 = .ok (.if_icmp .ge 89, 3) := by decide +kernel
theorem dX2_withDatePairs_15 : decode cX2_withDatePairs 15 = .ok (.iconst 0, 1) := by decide +kernel
theorem dX2_withDatePairs_16 : decode cX2_withDatePairs 16 = .ok (.istore 6, 2) := by decide +kernel
theorem dX2_withDatePairs_18 : decode cX2_withDatePairs 18 = .ok (.iload 6, 2) := by decide +kernel
theorem dX2_withDatePairs_20 : decode cX2_withDatePairs 20 = .ok (.aload_n 0, 1) := by decide +kernel
theorem dX2_withDatePairs_21 : decode cX2_withDatePairs 21 = .ok (.getfield 20, 3) := by decide +kernel
theorem dX2_withDatePairs_24 : decode cX2_withDatePairs 24 = .ok (.arraylength, 1) := by decide +kernel
theorem dX2_withDatePairs_25 : decode cX2_withDatePairs 25 = .ok (.if_icmp .ge 70, 3) := by decide +kernel
theorem dX2_withDatePairs_28 : decode cX2_withDatePairs 28 = .ok (.lload_n 3, 1) := by decide +kernel
theorem dX2_withDatePairs_29 : decode cX2_withDatePairs 29 = .ok (.aload_n 0, 1) := by decide +kernel
theorem dX2_withDatePairs_30 : decode cX2_withDatePairs 30 = .ok (.getfield 20, 3) := by decide +kernel
theorem dX2_withDatePairs_33 : decode cX2_withDatePairs 33 = .ok (.iload 5, 2) := by decide +kernel
theorem dX2_withDatePairs_35 : decode cX2_withDatePairs 35 = .ok (.invokestatic 84, 3) := by decide +kernel
theorem dX2_withDatePairs_38 : decode cX2_withDatePairs 38 = .ok (.aload_n 0, 1) := by decide +kernel
theorem dX2_withDatePairs_39 : decode cX2_withDatePairs 39 = .ok (.getfield 20, 3) := by decide +kernel
theorem dX2_withDatePairs_42 : decode cX2_withDatePairs 42 = .ok (.iload 6, 2) := by decide +kernel
theorem dX2_withDatePairs_44 : decode cX2_withDatePairs 44 = .ok (.invokestatic 84, 3) := by decide +kernel
theorem dX2_withDatePairs_47 : decode cX2_withDatePairs 47 = .ok (.invokevirtual 179, 3) := by decide +kernel
theorem dX2_withDatePairs_50 : decode cX2_withDatePairs 50 = .ok (.i2l, 1) := by decide +kernel
theorem dX2_withDatePairs_51 : decode cX2_withDatePairs 51 = .ok (.invokestatic 247, 3) := by decide +kernel
theorem dX2_withDatePairs_54 : decode cX2_withDatePairs 54 = .ok (.lstore_n 3, 1) := by decide +kernel
theorem dX2_withDatePairs_55 : decode cX2_withDatePairs 55 = .ok (.lload_n 3, 1) := by decide +kernel
theorem dX2_withDatePairs_56 : decode cX2_withDatePairs 56 = .ok (.aload_n 0, 1) := by decide +kernel
theorem dX2_withDatePairs_57 : decode cX2_withDatePairs 57 = .ok (.getfield 20, 3) := by decide +kernel
theorem dX2_withDatePairs_60 : decode cX2_withDatePairs 60 = .ok (.iload 5, 2) := by decide +kernel
theorem dX2_withDatePairs_62 : decode cX2_withDatePairs 62 = .ok (.invokestatic 84, 3) := by decide +kernel
theorem dX2_withDatePairs_65 : decode cX2_withDatePairs 65 = .ok (.aload_n 0, 1) := by decide +kernel
theorem dX2_withDatePairs_66 : decode cX2_withDatePairs 66 = .ok (.getfield 20, 3) := by decide +kernel
theorem dX2_withDatePairs_69 : decode cX2_withDatePairs 69 = .ok (.iload 6, 2) := by decide +kernel
theorem dX2_withDatePairs_71 : decode cX2_withDatePairs 71 = .ok (.invokestatic 84, 3) := by decide +kernel
theorem dX2_withDatePairs_74 : decode cX2_withDatePairs 74 = .ok (.invokevirtual 360, 3) := by decide +kernel
theorem dX2_withDatePairs_77 : decode cX2_withDatePairs 77 = .ok (.ifCond .eq 7, 3) := by decide +kernel
theorem dX2_withDatePairs_80 : decode cX2_withDatePairs 80 = .ok (.lconst 1, 1) := by decide +kernel
theorem dX2_withDatePairs_81 : decode cX2_withDatePairs 81 = .ok (.goto 4, 3) := by decide +kernel
theorem dX2_withDatePairs_84 : decode cX2_withDatePairs 84 = .ok (.lconst 0, 1) := by decide +kernel
theorem dX2_withDatePairs_85 : decode cX2_withDatePairs 85 = .ok (.invokestatic 247, 3) := by decide +kernel
theorem dX2_withDatePairs_88 : decode cX2_withDatePairs 88 = .ok (.lstore_n 3, 1) := by decide +kernel
theorem dX2_withDatePairs_89 : decode cX2_withDatePairs 89 = .ok (.iinc 6 1, 3) := by decide +kernel
theorem dX2_withDatePairs_92 : decode cX2_withDatePairs 92 = .ok (.goto (-74), 3) := by decide +kernel
theorem dX2_withDatePairs_95 : decode cX2_withDatePairs 95 = .ok (.iinc 5 1, 3) := by decide +kernel
theorem dX2_withDatePairs_98 : decode cX2_withDatePairs 98 = .ok (.goto (-93), 3) := by decide +kernel
theorem dX2_withDatePairs_101 : decode cX2_withDatePairs 101 = .ok (.lload_n 3, 1) := by decide +kernel
theorem dX2_withDatePairs_102 : decode cX2_withDatePairs 102 = .ok (.lreturn, 1) := by decide +kernel
set_option maxHeartbeats 4000000 in
set_option maxRecDepth 20000 in
theorem c_X2_withDatePairs (ad : Nat → Nat) (cs : ClassId × ClassId × ClassId) (K : mK) (rest : va_W) (p0 : Int64) : mCt (mTy cs) yX2_withDatePairs cX2_withDatePairs 7 (some .long) ⟨3, 0, 0, 67⟩ [.ref (ad 0), .long p0] (mWd ad cs K rest) (mWl ad cs K rest) mNo := by
  refine mCt.of (by decide +kernel) (Nat.le_of_ble_eq_true rfl) (fun X hX hE => ?_)
  have hX : mOK X RX2 cX2_withDatePairs 7 ⟨3, 0, 0, 67⟩ [] (mTy cs) := hX
  refine r_lload_n hX dX2_withDatePairs_0 rfl rfl ?_
  refine r_lstore_n hX dX2_withDatePairs_1 rfl (by decide) rfl ?_
  refine r_iconst (v := 0) hX dX2_withDatePairs_2 (by decide) ?_
  refine r_istore hX dX2_withDatePairs_3 (by decide) rfl ?_
  have L5 : ∀ (N4 j1 : Nat) (x2 : Int64), 4 - j1 < N4 → j1 ≤ 4 → ∀ K3 : mK, K3.1 = K.1 → mV X 5 [(0, some (.ref (ad 0))), (1, some (.long p0)), (3, some (.long x2)), (5, some (.int (nI j1)))] [] (mWd ad cs K3 rest) 0 0 := by
    intro N4
    induction N4 with
    | zero => intro j1 x2; omega
    | succ N4 ih5 =>
      intro j1 x2 hN5 hj1e K3 hK3
      refine r_iload hX dX2_withDatePairs_5 rfl ?_
      refine r_aload_n hX dX2_withDatePairs_7 rfl rfl ?_
      refine r_get hX kf_X2_20 0 rfl rfl dX2_withDatePairs_8 ?_
      refine r_alen (v := nI 4) hX 3 2 rfl rfl rfl dX2_withDatePairs_11 ?_
      refine r_icmp_ge (tgt := 101) hX dX2_withDatePairs_12 (by decide) (fun c5 => ?_) (fun c5 => ?_)
      · refine r_lload_n hX dX2_withDatePairs_101 rfl rfl ?_
        exact r_lret hX hE dX2_withDatePairs_102 (Nat.le_of_ble_eq_true rfl) (Nat.le_of_ble_eq_true rfl) ⟨_, K3, hK3, rfl, rfl⟩
      · have hj1 : j1 < 4 := mlt (by first | rfl | decide) (by decide) hj1e c5
        refine r_iconst (v := 0) hX dX2_withDatePairs_15 (by decide) ?_
        refine r_istore hX dX2_withDatePairs_16 (by decide) rfl ?_
        have L18 : ∀ (N9 j6 : Nat) (x7 : Int64), 4 - j6 < N9 → j6 ≤ 4 → ∀ K8 : mK, K8.1 = K.1 → mV X 18 [(0, some (.ref (ad 0))), (1, some (.long p0)), (3, some (.long x7)), (5, some (.int (nI j1))), (6, some (.int (nI j6)))] [] (mWd ad cs K8 rest) 0 0 := by
          intro N9
          induction N9 with
          | zero => intro j6 x7; omega
          | succ N9 ih18 =>
            intro j6 x7 hN18 hj6e K8 hK8
            refine r_iload hX dX2_withDatePairs_18 rfl ?_
            refine r_aload_n hX dX2_withDatePairs_20 rfl rfl ?_
            refine r_get hX kf_X2_20 0 rfl rfl dX2_withDatePairs_21 ?_
            refine r_alen (v := nI 4) hX 3 2 rfl rfl rfl dX2_withDatePairs_24 ?_
            refine r_icmp_ge (tgt := 95) hX dX2_withDatePairs_25 (by decide) (fun c10 => ?_) (fun c10 => ?_)
            · refine r_iinc hX dX2_withDatePairs_95 rfl (by decide) rfl ?_
              refine r_goto (tgt := 5) hX dX2_withDatePairs_98 (by decide) ?_
              exact r_loc (k' := 0) (n' := 0) (by exact ⟨rfl, rfl, rfl, nI_inc' _, trivial⟩) (by decide) (by decide) (ih5 (j1 + 1) _ (by omega) (by omega) _ hK8)
            · have hj6 : j6 < 4 := mlt (by first | rfl | decide) (by decide) hj6e c10
              refine r_lload_n hX dX2_withDatePairs_28 rfl rfl ?_
              refine r_aload_n hX dX2_withDatePairs_29 rfl rfl ?_
              refine r_get hX kf_X2_20 0 rfl rfl dX2_withDatePairs_30 ?_
              refine r_iload hX dX2_withDatePairs_33 rfl ?_
              refine r_callS hX (c_X2_at_ok ad cs _ 3 _ 4 0 rfl (by decide) j1 hj1) ks_X2_84 rfl rfl (Nat.le_of_ble_eq_true rfl) ⟨(Nat.le_of_ble_eq_true rfl), (Nat.le_of_ble_eq_true rfl)⟩ ⟨(Nat.le_of_ble_eq_true rfl), (Nat.le_of_ble_eq_true rfl)⟩ dX2_withDatePairs_35 (fun _ _ z => False.elim z) (fun v9 ws9 h11 => ?_)
              obtain ⟨rfl, hw9⟩ := h11
              subst ws9
              dsimp only [mPush]
              refine r_aload_n hX dX2_withDatePairs_38 rfl rfl ?_
              refine r_get hX kf_X2_20 0 rfl rfl dX2_withDatePairs_39 ?_
              refine r_iload hX dX2_withDatePairs_42 rfl ?_
              refine r_callS hX (c_X2_at_ok ad cs _ 3 _ 4 0 rfl (by decide) j6 hj6) ks_X2_84 rfl rfl (Nat.le_of_ble_eq_true rfl) ⟨(Nat.le_of_ble_eq_true rfl), (Nat.le_of_ble_eq_true rfl)⟩ ⟨(Nat.le_of_ble_eq_true rfl), (Nat.le_of_ble_eq_true rfl)⟩ dX2_withDatePairs_44 (fun _ _ z => False.elim z) (fun v9 ws9 h13 => ?_)
              obtain ⟨rfl, hw9⟩ := h13
              subst ws9
              dsimp only [mPush]
              refine r_callV hX (c_X1_orderTo _ _ (j1 + 5) _ _ _ _ (mWd_loc (d := j1) (by omega)) (j6 + 5) _ _ _ _ (mWd_loc (d := j6) (by omega))) kv_X2_179 (j1 + 5) (mWd_loc (d := j1) (by omega)) rfl rfl rfl (Nat.le_of_ble_eq_true rfl) ⟨(Nat.le_of_ble_eq_true rfl), (Nat.le_of_ble_eq_true rfl)⟩ ⟨(Nat.le_of_ble_eq_true rfl), (Nat.le_of_ble_eq_true rfl)⟩ dX2_withDatePairs_47 (fun _ _ z => False.elim z) (fun v9 ws9 h15 => ?_)
              obtain ⟨r17, rfl, hw9⟩ := h15
              subst ws9
              dsimp only [mPush]
              refine r_i2l hX dX2_withDatePairs_50 ?_
              refine r_callS hX (c_X2_added _ _ _ _) ks_X2_247 rfl rfl (Nat.le_of_ble_eq_true rfl) ⟨(Nat.le_of_ble_eq_true rfl), (Nat.le_of_ble_eq_true rfl)⟩ ⟨(Nat.le_of_ble_eq_true rfl), (Nat.le_of_ble_eq_true rfl)⟩ dX2_withDatePairs_51 (fun _ _ z => False.elim z) (fun v9 ws9 h18 => ?_)
              obtain ⟨r20, rfl, hw9⟩ := h18
              subst ws9
              dsimp only [mPush]
              refine r_lstore_n hX dX2_withDatePairs_54 rfl (by decide) rfl ?_
              refine r_lload_n hX dX2_withDatePairs_55 rfl rfl ?_
              refine r_aload_n hX dX2_withDatePairs_56 rfl rfl ?_
              refine r_get hX kf_X2_20 0 rfl rfl dX2_withDatePairs_57 ?_
              refine r_iload hX dX2_withDatePairs_60 rfl ?_
              refine r_callS hX (c_X2_at_ok ad cs _ 3 _ 4 0 rfl (by decide) j1 hj1) ks_X2_84 rfl rfl (Nat.le_of_ble_eq_true rfl) ⟨(Nat.le_of_ble_eq_true rfl), (Nat.le_of_ble_eq_true rfl)⟩ ⟨(Nat.le_of_ble_eq_true rfl), (Nat.le_of_ble_eq_true rfl)⟩ dX2_withDatePairs_62 (fun _ _ z => False.elim z) (fun v9 ws9 h21 => ?_)
              obtain ⟨rfl, hw9⟩ := h21
              subst ws9
              dsimp only [mPush]
              refine r_aload_n hX dX2_withDatePairs_65 rfl rfl ?_
              refine r_get hX kf_X2_20 0 rfl rfl dX2_withDatePairs_66 ?_
              refine r_iload hX dX2_withDatePairs_69 rfl ?_
              refine r_callS hX (c_X2_at_ok ad cs _ 3 _ 4 0 rfl (by decide) j6 hj6) ks_X2_84 rfl rfl (Nat.le_of_ble_eq_true rfl) ⟨(Nat.le_of_ble_eq_true rfl), (Nat.le_of_ble_eq_true rfl)⟩ ⟨(Nat.le_of_ble_eq_true rfl), (Nat.le_of_ble_eq_true rfl)⟩ dX2_withDatePairs_71 (fun _ _ z => False.elim z) (fun v9 ws9 h23 => ?_)
              obtain ⟨rfl, hw9⟩ := h23
              subst ws9
              dsimp only [mPush]
              refine r_callV hX (c_X1_isAlike _ _ (j1 + 5) _ _ _ _ (mWd_loc (d := j1) (by omega)) (j6 + 5) _ _ _ _ (mWd_loc (d := j6) (by omega))) kv_X2_360 (j1 + 5) (mWd_loc (d := j1) (by omega)) rfl rfl rfl (Nat.le_of_ble_eq_true rfl) ⟨(Nat.le_of_ble_eq_true rfl), (Nat.le_of_ble_eq_true rfl)⟩ ⟨(Nat.le_of_ble_eq_true rfl), (Nat.le_of_ble_eq_true rfl)⟩ dX2_withDatePairs_74 (fun _ _ z => False.elim z) (fun v9 ws9 h25 => ?_)
              obtain ⟨r27, br27, rfl, hw9⟩ := h25
              subst ws9
              dsimp only [mPush]
              refine r_if_eq (tgt := 84) hX dX2_withDatePairs_77 (by decide) (fun c28 => ?_) (fun c28 => ?_)
              · refine r_lconst (v := 0) hX dX2_withDatePairs_84 (by decide) ?_
                refine r_callS hX (c_X2_added _ _ _ _) ks_X2_247 rfl rfl (Nat.le_of_ble_eq_true rfl) ⟨(Nat.le_of_ble_eq_true rfl), (Nat.le_of_ble_eq_true rfl)⟩ ⟨(Nat.le_of_ble_eq_true rfl), (Nat.le_of_ble_eq_true rfl)⟩ dX2_withDatePairs_85 (fun _ _ z => False.elim z) (fun v9 ws9 h29 => ?_)
                obtain ⟨r31, rfl, hw9⟩ := h29
                subst ws9
                dsimp only [mPush]
                refine r_lstore_n hX dX2_withDatePairs_88 rfl (by decide) rfl ?_
                refine r_iinc hX dX2_withDatePairs_89 rfl (by decide) rfl ?_
                refine r_goto (tgt := 18) hX dX2_withDatePairs_92 (by decide) ?_
                exact r_loc (k' := 0) (n' := 0) (by exact ⟨rfl, rfl, rfl, rfl, nI_inc' _, trivial⟩) (by decide) (by decide) (ih18 (j6 + 1) _ (by omega) (by omega) _ hK8)
              · refine r_lconst (v := 1) hX dX2_withDatePairs_80 (by decide) ?_
                refine r_goto (tgt := 85) hX dX2_withDatePairs_81 (by decide) ?_
                refine r_callS hX (c_X2_added _ _ _ _) ks_X2_247 rfl rfl (Nat.le_of_ble_eq_true rfl) ⟨(Nat.le_of_ble_eq_true rfl), (Nat.le_of_ble_eq_true rfl)⟩ ⟨(Nat.le_of_ble_eq_true rfl), (Nat.le_of_ble_eq_true rfl)⟩ dX2_withDatePairs_85 (fun _ _ z => False.elim z) (fun v9 ws9 h32 => ?_)
                obtain ⟨r34, rfl, hw9⟩ := h32
                subst ws9
                dsimp only [mPush]
                refine r_lstore_n hX dX2_withDatePairs_88 rfl (by decide) rfl ?_
                refine r_iinc hX dX2_withDatePairs_89 rfl (by decide) rfl ?_
                refine r_goto (tgt := 18) hX dX2_withDatePairs_92 (by decide) ?_
                exact r_loc (k' := 0) (n' := 0) (by exact ⟨rfl, rfl, rfl, rfl, nI_inc' _, trivial⟩) (by decide) (by decide) (ih18 (j6 + 1) _ (by omega) (by omega) _ hK8)
        exact r_loc (k' := 0) (n' := 0) (by exact ⟨rfl, rfl, rfl, rfl, rfl, trivial⟩) (by decide) (by decide) (L18 (4 + 1) 0 _ (by omega) (by omega) _ hK3)
  exact r_loc (k' := 0) (n' := 0) (by exact ⟨rfl, rfl, rfl, rfl, trivial⟩) (by decide) (by decide) (L5 (4 + 1) 0 _ (by omega) (by omega) _ rfl)
theorem dX2_withClockPairs_0 : decode cX2_withClockPairs 0 = .ok (.lload_n 1, 1) := by decide +kernel
theorem dX2_withClockPairs_1 : decode cX2_withClockPairs 1 = .ok (.lstore_n 3, 1) := by decide +kernel
theorem dX2_withClockPairs_2 : decode cX2_withClockPairs 2 = .ok (.iconst 0, 1) := by decide +kernel
theorem dX2_withClockPairs_3 : decode cX2_withClockPairs 3 = .ok (.istore 5, 2) := by decide +kernel
theorem dX2_withClockPairs_5 : decode cX2_withClockPairs 5 = .ok (.iload 5, 2) := by decide +kernel
theorem dX2_withClockPairs_7 : decode cX2_withClockPairs 7 = .ok (.aload_n 0, 1) := by decide +kernel
theorem dX2_withClockPairs_8 : decode cX2_withClockPairs 8 = .ok (.getfield 24, 3) := by decide +kernel
theorem dX2_withClockPairs_11 : decode cX2_withClockPairs 11 = .ok (.arraylength, 1) := by decide +kernel
theorem dX2_withClockPairs_12 : decode cX2_withClockPairs 12 = .ok (.if_icmp .ge 55, 3) := by decide +kernel
theorem dX2_withClockPairs_15 : decode cX2_withClockPairs 15 = .ok (.iconst 0, 1) := by decide +kernel
theorem dX2_withClockPairs_16 : decode cX2_withClockPairs 16 = .ok (.istore 6, 2) := by decide +kernel
theorem dX2_withClockPairs_18 : decode cX2_withClockPairs 18 = .ok (.iload 6, 2) := by decide +kernel
theorem dX2_withClockPairs_20 : decode cX2_withClockPairs 20 = .ok (.aload_n 0, 1) := by decide +kernel
theorem dX2_withClockPairs_21 : decode cX2_withClockPairs 21 = .ok (.getfield 24, 3) := by decide +kernel
theorem dX2_withClockPairs_24 : decode cX2_withClockPairs 24 = .ok (.arraylength, 1) := by decide +kernel
theorem dX2_withClockPairs_25 : decode cX2_withClockPairs 25 = .ok (.if_icmp .ge 36, 3) := by decide +kernel
theorem dX2_withClockPairs_28 : decode cX2_withClockPairs 28 = .ok (.lload_n 3, 1) := by decide +kernel
theorem dX2_withClockPairs_29 : decode cX2_withClockPairs 29 = .ok (.aload_n 0, 1) := by decide +kernel
theorem dX2_withClockPairs_30 : decode cX2_withClockPairs 30 = .ok (.getfield 24, 3) := by decide +kernel
theorem dX2_withClockPairs_33 : decode cX2_withClockPairs 33 = .ok (.iload 5, 2) := by decide +kernel
theorem dX2_withClockPairs_35 : decode cX2_withClockPairs 35 = .ok (.invokestatic 84, 3) := by decide +kernel
theorem dX2_withClockPairs_38 : decode cX2_withClockPairs 38 = .ok (.aload_n 0, 1) := by decide +kernel
theorem dX2_withClockPairs_39 : decode cX2_withClockPairs 39 = .ok (.getfield 24, 3) := by decide +kernel
theorem dX2_withClockPairs_42 : decode cX2_withClockPairs 42 = .ok (.iload 6, 2) := by decide +kernel
theorem dX2_withClockPairs_44 : decode cX2_withClockPairs 44 = .ok (.invokestatic 84, 3) := by decide +kernel
theorem dX2_withClockPairs_47 : decode cX2_withClockPairs 47 = .ok (.invokevirtual 179, 3) := by decide +kernel
theorem dX2_withClockPairs_50 : decode cX2_withClockPairs 50 = .ok (.i2l, 1) := by decide +kernel
theorem dX2_withClockPairs_51 : decode cX2_withClockPairs 51 = .ok (.invokestatic 247, 3) := by decide +kernel
theorem dX2_withClockPairs_54 : decode cX2_withClockPairs 54 = .ok (.lstore_n 3, 1) := by decide +kernel
theorem dX2_withClockPairs_55 : decode cX2_withClockPairs 55 = .ok (.iinc 6 1, 3) := by decide +kernel
theorem dX2_withClockPairs_58 : decode cX2_withClockPairs 58 = .ok (.goto (-40), 3) := by decide +kernel
theorem dX2_withClockPairs_61 : decode cX2_withClockPairs 61 = .ok (.iinc 5 1, 3) := by decide +kernel
theorem dX2_withClockPairs_64 : decode cX2_withClockPairs 64 = .ok (.goto (-59), 3) := by decide +kernel
theorem dX2_withClockPairs_67 : decode cX2_withClockPairs 67 = .ok (.lload_n 3, 1) := by decide +kernel
theorem dX2_withClockPairs_68 : decode cX2_withClockPairs 68 = .ok (.lreturn, 1) := by decide +kernel
set_option maxHeartbeats 4000000 in
set_option maxRecDepth 20000 in
theorem c_X2_withClockPairs (ad : Nat → Nat) (cs : ClassId × ClassId × ClassId) (K : mK) (rest : va_W) (p0 : Int64) : mCt (mTy cs) yX2_withClockPairs cX2_withClockPairs 7 (some .long) ⟨3, 0, 0, 67⟩ [.ref (ad 0), .long p0] (mWd ad cs K rest) (mWl ad cs K rest) mNo := by
  refine mCt.of (by decide +kernel) (Nat.le_of_ble_eq_true rfl) (fun X hX hE => ?_)
  have hX : mOK X RX2 cX2_withClockPairs 7 ⟨3, 0, 0, 67⟩ [] (mTy cs) := hX
  refine r_lload_n hX dX2_withClockPairs_0 rfl rfl ?_
  refine r_lstore_n hX dX2_withClockPairs_1 rfl (by decide) rfl ?_
  refine r_iconst (v := 0) hX dX2_withClockPairs_2 (by decide) ?_
  refine r_istore hX dX2_withClockPairs_3 (by decide) rfl ?_
  have L5 : ∀ (N4 j1 : Nat) (x2 : Int64), 3 - j1 < N4 → j1 ≤ 3 → ∀ K3 : mK, K3.1 = K.1 → mV X 5 [(0, some (.ref (ad 0))), (1, some (.long p0)), (3, some (.long x2)), (5, some (.int (nI j1)))] [] (mWd ad cs K3 rest) 0 0 := by
    intro N4
    induction N4 with
    | zero => intro j1 x2; omega
    | succ N4 ih5 =>
      intro j1 x2 hN5 hj1e K3 hK3
      refine r_iload hX dX2_withClockPairs_5 rfl ?_
      refine r_aload_n hX dX2_withClockPairs_7 rfl rfl ?_
      refine r_get hX kf_X2_24 0 rfl rfl dX2_withClockPairs_8 ?_
      refine r_alen (v := nI 3) hX 4 2 rfl rfl rfl dX2_withClockPairs_11 ?_
      refine r_icmp_ge (tgt := 67) hX dX2_withClockPairs_12 (by decide) (fun c5 => ?_) (fun c5 => ?_)
      · refine r_lload_n hX dX2_withClockPairs_67 rfl rfl ?_
        exact r_lret hX hE dX2_withClockPairs_68 (Nat.le_of_ble_eq_true rfl) (Nat.le_of_ble_eq_true rfl) ⟨_, K3, hK3, rfl, rfl⟩
      · have hj1 : j1 < 3 := mlt (by first | rfl | decide) (by decide) hj1e c5
        refine r_iconst (v := 0) hX dX2_withClockPairs_15 (by decide) ?_
        refine r_istore hX dX2_withClockPairs_16 (by decide) rfl ?_
        have L18 : ∀ (N9 j6 : Nat) (x7 : Int64), 3 - j6 < N9 → j6 ≤ 3 → ∀ K8 : mK, K8.1 = K.1 → mV X 18 [(0, some (.ref (ad 0))), (1, some (.long p0)), (3, some (.long x7)), (5, some (.int (nI j1))), (6, some (.int (nI j6)))] [] (mWd ad cs K8 rest) 0 0 := by
          intro N9
          induction N9 with
          | zero => intro j6 x7; omega
          | succ N9 ih18 =>
            intro j6 x7 hN18 hj6e K8 hK8
            refine r_iload hX dX2_withClockPairs_18 rfl ?_
            refine r_aload_n hX dX2_withClockPairs_20 rfl rfl ?_
            refine r_get hX kf_X2_24 0 rfl rfl dX2_withClockPairs_21 ?_
            refine r_alen (v := nI 3) hX 4 2 rfl rfl rfl dX2_withClockPairs_24 ?_
            refine r_icmp_ge (tgt := 61) hX dX2_withClockPairs_25 (by decide) (fun c10 => ?_) (fun c10 => ?_)
            · refine r_iinc hX dX2_withClockPairs_61 rfl (by decide) rfl ?_
              refine r_goto (tgt := 5) hX dX2_withClockPairs_64 (by decide) ?_
              exact r_loc (k' := 0) (n' := 0) (by exact ⟨rfl, rfl, rfl, nI_inc' _, trivial⟩) (by decide) (by decide) (ih5 (j1 + 1) _ (by omega) (by omega) _ hK8)
            · have hj6 : j6 < 3 := mlt (by first | rfl | decide) (by decide) hj6e c10
              refine r_lload_n hX dX2_withClockPairs_28 rfl rfl ?_
              refine r_aload_n hX dX2_withClockPairs_29 rfl rfl ?_
              refine r_get hX kf_X2_24 0 rfl rfl dX2_withClockPairs_30 ?_
              refine r_iload hX dX2_withClockPairs_33 rfl ?_
              refine r_callS hX (c_X2_at_ok ad cs _ 4 _ 3 4 rfl (by decide) j1 hj1) ks_X2_84 rfl rfl (Nat.le_of_ble_eq_true rfl) ⟨(Nat.le_of_ble_eq_true rfl), (Nat.le_of_ble_eq_true rfl)⟩ ⟨(Nat.le_of_ble_eq_true rfl), (Nat.le_of_ble_eq_true rfl)⟩ dX2_withClockPairs_35 (fun _ _ z => False.elim z) (fun v9 ws9 h11 => ?_)
              obtain ⟨rfl, hw9⟩ := h11
              subst ws9
              dsimp only [mPush]
              refine r_aload_n hX dX2_withClockPairs_38 rfl rfl ?_
              refine r_get hX kf_X2_24 0 rfl rfl dX2_withClockPairs_39 ?_
              refine r_iload hX dX2_withClockPairs_42 rfl ?_
              refine r_callS hX (c_X2_at_ok ad cs _ 4 _ 3 4 rfl (by decide) j6 hj6) ks_X2_84 rfl rfl (Nat.le_of_ble_eq_true rfl) ⟨(Nat.le_of_ble_eq_true rfl), (Nat.le_of_ble_eq_true rfl)⟩ ⟨(Nat.le_of_ble_eq_true rfl), (Nat.le_of_ble_eq_true rfl)⟩ dX2_withClockPairs_44 (fun _ _ z => False.elim z) (fun v9 ws9 h13 => ?_)
              obtain ⟨rfl, hw9⟩ := h13
              subst ws9
              dsimp only [mPush]
              refine r_callV hX (c_X1_orderTo _ _ (j1 + 4 + 5) _ _ _ _ (mWd_loc (d := j1 + 4) (by omega)) (j6 + 4 + 5) _ _ _ _ (mWd_loc (d := j6 + 4) (by omega))) kv_X2_179 (j1 + 4 + 5) (mWd_loc (d := j1 + 4) (by omega)) rfl rfl rfl (Nat.le_of_ble_eq_true rfl) ⟨(Nat.le_of_ble_eq_true rfl), (Nat.le_of_ble_eq_true rfl)⟩ ⟨(Nat.le_of_ble_eq_true rfl), (Nat.le_of_ble_eq_true rfl)⟩ dX2_withClockPairs_47 (fun _ _ z => False.elim z) (fun v9 ws9 h15 => ?_)
              obtain ⟨r17, rfl, hw9⟩ := h15
              subst ws9
              dsimp only [mPush]
              refine r_i2l hX dX2_withClockPairs_50 ?_
              refine r_callS hX (c_X2_added _ _ _ _) ks_X2_247 rfl rfl (Nat.le_of_ble_eq_true rfl) ⟨(Nat.le_of_ble_eq_true rfl), (Nat.le_of_ble_eq_true rfl)⟩ ⟨(Nat.le_of_ble_eq_true rfl), (Nat.le_of_ble_eq_true rfl)⟩ dX2_withClockPairs_51 (fun _ _ z => False.elim z) (fun v9 ws9 h18 => ?_)
              obtain ⟨r20, rfl, hw9⟩ := h18
              subst ws9
              dsimp only [mPush]
              refine r_lstore_n hX dX2_withClockPairs_54 rfl (by decide) rfl ?_
              refine r_iinc hX dX2_withClockPairs_55 rfl (by decide) rfl ?_
              refine r_goto (tgt := 18) hX dX2_withClockPairs_58 (by decide) ?_
              exact r_loc (k' := 0) (n' := 0) (by exact ⟨rfl, rfl, rfl, rfl, nI_inc' _, trivial⟩) (by decide) (by decide) (ih18 (j6 + 1) _ (by omega) (by omega) _ hK8)
        exact r_loc (k' := 0) (n' := 0) (by exact ⟨rfl, rfl, rfl, rfl, rfl, trivial⟩) (by decide) (by decide) (L18 (3 + 1) 0 _ (by omega) (by omega) _ hK3)
  exact r_loc (k' := 0) (n' := 0) (by exact ⟨rfl, rfl, rfl, rfl, trivial⟩) (by decide) (by decide) (L5 (3 + 1) 0 _ (by omega) (by omega) _ rfl)
theorem dX2_withHouse_0 : decode cX2_withHouse 0 = .ok (.lload_n 1, 1) := by decide +kernel
theorem dX2_withHouse_1 : decode cX2_withHouse 1 = .ok (.lstore_n 3, 1) := by decide +kernel
theorem dX2_withHouse_2 : decode cX2_withHouse 2 = .ok (.iconst 0, 1) := by decide +kernel
theorem dX2_withHouse_3 : decode cX2_withHouse 3 = .ok (.istore 5, 2) := by decide +kernel
theorem dX2_withHouse_5 : decode cX2_withHouse 5 = .ok (.iload 5, 2) := by decide +kernel
theorem dX2_withHouse_7 : decode cX2_withHouse 7 = .ok (.iconst 4, 1) := by decide +kernel
theorem dX2_withHouse_8 : decode cX2_withHouse 8 = .ok (.if_icmp .ge 21, 3) := by decide +kernel
theorem dX2_withHouse_11 : decode cX2_withHouse 11 = .ok (.lload_n 3, 1) := by decide +kernel
theorem dX2_withHouse_12 : decode cX2_withHouse 12 = .ok (.aload_n 0, 1) := by decide +kernel
theorem dX2_withHouse_13 : decode cX2_withHouse 13 = .ok (.iload 5, 2) := by decide +kernel
theorem dX2_withHouse_15 : decode cX2_withHouse 15 = .ok (.invokevirtual 380, 3) := by decide +kernel
theorem dX2_withHouse_18 : decode cX2_withHouse 18 = .ok (.i2l, 1) := by decide +kernel
theorem dX2_withHouse_19 : decode cX2_withHouse 19 = .ok (.invokestatic 247, 3) := by decide +kernel
theorem dX2_withHouse_22 : decode cX2_withHouse 22 = .ok (.lstore_n 3, 1) := by decide +kernel
theorem dX2_withHouse_23 : decode cX2_withHouse 23 = .ok (.iinc 5 1, 3) := by decide +kernel
theorem dX2_withHouse_26 : decode cX2_withHouse 26 = .ok (.goto (-21), 3) := by decide +kernel
theorem dX2_withHouse_29 : decode cX2_withHouse 29 = .ok (.lload_n 3, 1) := by decide +kernel
theorem dX2_withHouse_30 : decode cX2_withHouse 30 = .ok (.lreturn, 1) := by decide +kernel
set_option maxHeartbeats 4000000 in
set_option maxRecDepth 20000 in
theorem c_X2_withHouse (ad : Nat → Nat) (cs : ClassId × ClassId × ClassId) (K : mK) (rest : va_W) (p0 : Int64) : mCt (mTy cs) yX2_withHouse cX2_withHouse 6 (some .long) ⟨5, 0, 0, 110⟩ [.ref (ad 0), .long p0] (mWd ad cs K rest) (mWl ad cs K rest) mNo := by
  refine mCt.of (by decide +kernel) (Nat.le_of_ble_eq_true rfl) (fun X hX hE => ?_)
  have hX : mOK X RX2 cX2_withHouse 6 ⟨5, 0, 0, 110⟩ [] (mTy cs) := hX
  refine r_lload_n hX dX2_withHouse_0 rfl rfl ?_
  refine r_lstore_n hX dX2_withHouse_1 rfl (by decide) rfl ?_
  refine r_iconst (v := 0) hX dX2_withHouse_2 (by decide) ?_
  refine r_istore hX dX2_withHouse_3 (by decide) rfl ?_
  have L5 : ∀ (N4 j1 : Nat) (x2 : Int64), 4 - j1 < N4 → j1 ≤ 4 → ∀ K3 : mK, K3.1 = K.1 → mV X 5 [(0, some (.ref (ad 0))), (1, some (.long p0)), (3, some (.long x2)), (5, some (.int (nI j1)))] [] (mWd ad cs K3 rest) 0 0 := by
    intro N4
    induction N4 with
    | zero => intro j1 x2; omega
    | succ N4 ih5 =>
      intro j1 x2 hN5 hj1e K3 hK3
      refine r_iload hX dX2_withHouse_5 rfl ?_
      refine r_iconst (v := 4) hX dX2_withHouse_7 (by decide) ?_
      refine r_icmp_ge (tgt := 29) hX dX2_withHouse_8 (by decide) (fun c5 => ?_) (fun c5 => ?_)
      · refine r_lload_n hX dX2_withHouse_29 rfl rfl ?_
        exact r_lret hX hE dX2_withHouse_30 (Nat.le_of_ble_eq_true rfl) (Nat.le_of_ble_eq_true rfl) ⟨_, K3, hK3, rfl, rfl⟩
      · have hj1 : j1 < 4 := mlt (by first | rfl | decide) (by decide) hj1e c5
        refine r_lload_n hX dX2_withHouse_11 rfl rfl ?_
        refine r_aload_n hX dX2_withHouse_12 rfl rfl ?_
        refine r_iload hX dX2_withHouse_13 rfl ?_
        refine r_callV hX (c_X2_house_ok _ _ _ _ j1 hj1) kv_X2_380 0 rfl rfl rfl rfl (Nat.le_of_ble_eq_true rfl) ⟨(Nat.le_of_ble_eq_true rfl), (Nat.le_of_ble_eq_true rfl)⟩ ⟨(Nat.le_of_ble_eq_true rfl), (Nat.le_of_ble_eq_true rfl)⟩ dX2_withHouse_15 (fun _ _ z => False.elim z) (fun v9 ws9 h6 => ?_)
        obtain ⟨r8, K9, hK9, rfl, hw9⟩ := h6
        subst ws9
        dsimp only [mPush]
        refine r_i2l hX dX2_withHouse_18 ?_
        refine r_callS hX (c_X2_added _ _ _ _) ks_X2_247 rfl rfl (Nat.le_of_ble_eq_true rfl) ⟨(Nat.le_of_ble_eq_true rfl), (Nat.le_of_ble_eq_true rfl)⟩ ⟨(Nat.le_of_ble_eq_true rfl), (Nat.le_of_ble_eq_true rfl)⟩ dX2_withHouse_19 (fun _ _ z => False.elim z) (fun v9 ws9 h10 => ?_)
        obtain ⟨r12, rfl, hw9⟩ := h10
        subst ws9
        dsimp only [mPush]
        refine r_lstore_n hX dX2_withHouse_22 rfl (by decide) rfl ?_
        refine r_iinc hX dX2_withHouse_23 rfl (by decide) rfl ?_
        refine r_goto (tgt := 5) hX dX2_withHouse_26 (by decide) ?_
        exact r_loc (k' := 0) (n' := 0) (by exact ⟨rfl, rfl, rfl, nI_inc' _, trivial⟩) (by decide) (by decide) (ih5 (j1 + 1) _ (by omega) (by omega) _ (hK9.trans hK3))
  exact r_loc (k' := 0) (n' := 0) (by exact ⟨rfl, rfl, rfl, rfl, trivial⟩) (by decide) (by decide) (L5 (4 + 1) 0 _ (by omega) (by omega) _ rfl)
theorem dX2_digest_0 : decode cX2_digest 0 = .ok (.ldc2_w 221, 3) := by decide +kernel
theorem dX2_digest_3 : decode cX2_digest 3 = .ok (.lstore_n 1, 1) := by decide +kernel
theorem dX2_digest_4 : decode cX2_digest 4 = .ok (.aload_n 0, 1) := by decide +kernel
theorem dX2_digest_5 : decode cX2_digest 5 = .ok (.lload_n 1, 1) := by decide +kernel
theorem dX2_digest_6 : decode cX2_digest 6 = .ok (.invokevirtual 223, 3) := by decide +kernel
theorem dX2_digest_9 : decode cX2_digest 9 = .ok (.lstore_n 1, 1) := by decide +kernel
theorem dX2_digest_10 : decode cX2_digest 10 = .ok (.aload_n 0, 1) := by decide +kernel
theorem dX2_digest_11 : decode cX2_digest 11 = .ok (.lload_n 1, 1) := by decide +kernel
theorem dX2_digest_12 : decode cX2_digest 12 = .ok (.invokevirtual 226, 3) := by decide +kernel
theorem dX2_digest_15 : decode cX2_digest 15 = .ok (.lstore_n 1, 1) := by decide +kernel
theorem dX2_digest_16 : decode cX2_digest 16 = .ok (.aload_n 0, 1) := by decide +kernel
theorem dX2_digest_17 : decode cX2_digest 17 = .ok (.lload_n 1, 1) := by decide +kernel
theorem dX2_digest_18 : decode cX2_digest 18 = .ok (.invokevirtual 229, 3) := by decide +kernel
theorem dX2_digest_21 : decode cX2_digest 21 = .ok (.lstore_n 1, 1) := by decide +kernel
theorem dX2_digest_22 : decode cX2_digest 22 = .ok (.aload_n 0, 1) := by decide +kernel
theorem dX2_digest_23 : decode cX2_digest 23 = .ok (.lload_n 1, 1) := by decide +kernel
theorem dX2_digest_24 : decode cX2_digest 24 = .ok (.invokevirtual 232, 3) := by decide +kernel
theorem dX2_digest_27 : decode cX2_digest 27 = .ok (.lstore_n 1, 1) := by decide +kernel
theorem dX2_digest_28 : decode cX2_digest 28 = .ok (.aload_n 0, 1) := by decide +kernel
theorem dX2_digest_29 : decode cX2_digest 29 = .ok (.lload_n 1, 1) := by decide +kernel
theorem dX2_digest_30 : decode cX2_digest 30 = .ok (.invokevirtual 235, 3) := by decide +kernel
theorem dX2_digest_33 : decode cX2_digest 33 = .ok (.lstore_n 1, 1) := by decide +kernel
theorem dX2_digest_34 : decode cX2_digest 34 = .ok (.aload_n 0, 1) := by decide +kernel
theorem dX2_digest_35 : decode cX2_digest 35 = .ok (.lload_n 1, 1) := by decide +kernel
theorem dX2_digest_36 : decode cX2_digest 36 = .ok (.invokevirtual 238, 3) := by decide +kernel
theorem dX2_digest_39 : decode cX2_digest 39 = .ok (.lstore_n 1, 1) := by decide +kernel
theorem dX2_digest_40 : decode cX2_digest 40 = .ok (.aload_n 0, 1) := by decide +kernel
theorem dX2_digest_41 : decode cX2_digest 41 = .ok (.lload_n 1, 1) := by decide +kernel
theorem dX2_digest_42 : decode cX2_digest 42 = .ok (.invokevirtual 241, 3) := by decide +kernel
theorem dX2_digest_45 : decode cX2_digest 45 = .ok (.lstore_n 1, 1) := by decide +kernel
theorem dX2_digest_46 : decode cX2_digest 46 = .ok (.lload_n 1, 1) := by decide +kernel
theorem dX2_digest_47 : decode cX2_digest 47 = .ok (.aload_n 0, 1) := by decide +kernel
theorem dX2_digest_48 : decode cX2_digest 48 = .ok (.invokevirtual 244, 3) := by decide +kernel
theorem dX2_digest_51 : decode cX2_digest 51 = .ok (.ifCond .eq 7, 3) := by decide +kernel
theorem dX2_digest_54 : decode cX2_digest 54 = .ok (.lconst 1, 1) := by decide +kernel
theorem dX2_digest_55 : decode cX2_digest 55 = .ok (.goto 4, 3) := by decide +kernel
theorem dX2_digest_58 : decode cX2_digest 58 = .ok (.lconst 0, 1) := by decide +kernel
theorem dX2_digest_59 : decode cX2_digest 59 = .ok (.invokestatic 247, 3) := by decide +kernel
theorem dX2_digest_62 : decode cX2_digest 62 = .ok (.lreturn, 1) := by decide +kernel
set_option maxHeartbeats 4000000 in
set_option maxRecDepth 20000 in
theorem c_X2_digest (ad : Nat → Nat) (cs : ClassId × ClassId × ClassId) (K : mK) (rest : va_W) : mCt (mTy cs) yX2_digest cX2_digest 3 (some .long) ⟨6, 0, 0, 135⟩ [.ref (ad 0)] (mWd ad cs K rest) (mWl ad cs K rest) mNo := by
  refine mCt.of (by decide +kernel) (Nat.le_of_ble_eq_true rfl) (fun X hX hE => ?_)
  have hX : mOK X RX2 cX2_digest 3 ⟨6, 0, 0, 135⟩ [] (mTy cs) := hX
  refine r_ldc2 hX kc_X2_221 dX2_digest_0 ?_
  refine r_lstore_n hX dX2_digest_3 rfl (by decide) rfl ?_
  refine r_aload_n hX dX2_digest_4 rfl rfl ?_
  refine r_lload_n hX dX2_digest_5 rfl rfl ?_
  refine r_callV hX (c_X2_withOffsets _ _ _ _ _) kv_X2_223 0 rfl rfl rfl rfl (Nat.le_of_ble_eq_true rfl) ⟨(Nat.le_of_ble_eq_true rfl), (Nat.le_of_ble_eq_true rfl)⟩ ⟨(Nat.le_of_ble_eq_true rfl), (Nat.le_of_ble_eq_true rfl)⟩ dX2_digest_6 (fun _ _ z => False.elim z) (fun v9 ws9 h1 => ?_)
  obtain ⟨r3, K4, hK4, rfl, hw9⟩ := h1
  subst ws9
  dsimp only [mPush]
  refine r_lstore_n hX dX2_digest_9 rfl (by decide) rfl ?_
  refine r_aload_n hX dX2_digest_10 rfl rfl ?_
  refine r_lload_n hX dX2_digest_11 rfl rfl ?_
  refine r_callV hX (c_X2_withMoments _ _ _ _ _) kv_X2_226 0 rfl rfl rfl rfl (Nat.le_of_ble_eq_true rfl) ⟨(Nat.le_of_ble_eq_true rfl), (Nat.le_of_ble_eq_true rfl)⟩ ⟨(Nat.le_of_ble_eq_true rfl), (Nat.le_of_ble_eq_true rfl)⟩ dX2_digest_12 (fun _ _ z => False.elim z) (fun v9 ws9 h5 => ?_)
  obtain ⟨r7, K8, hK8, rfl, hw9⟩ := h5
  subst ws9
  dsimp only [mPush]
  refine r_lstore_n hX dX2_digest_15 rfl (by decide) rfl ?_
  refine r_aload_n hX dX2_digest_16 rfl rfl ?_
  refine r_lload_n hX dX2_digest_17 rfl rfl ?_
  refine r_callV hX (c_X2_withDates _ _ _ _ _) kv_X2_229 0 rfl rfl rfl rfl (Nat.le_of_ble_eq_true rfl) ⟨(Nat.le_of_ble_eq_true rfl), (Nat.le_of_ble_eq_true rfl)⟩ ⟨(Nat.le_of_ble_eq_true rfl), (Nat.le_of_ble_eq_true rfl)⟩ dX2_digest_18 (fun _ _ z => False.elim z) (fun v9 ws9 h9 => ?_)
  obtain ⟨r11, K12, hK12, rfl, hw9⟩ := h9
  subst ws9
  dsimp only [mPush]
  refine r_lstore_n hX dX2_digest_21 rfl (by decide) rfl ?_
  refine r_aload_n hX dX2_digest_22 rfl rfl ?_
  refine r_lload_n hX dX2_digest_23 rfl rfl ?_
  refine r_callV hX (c_X2_withClocks _ _ _ _ _) kv_X2_232 0 rfl rfl rfl rfl (Nat.le_of_ble_eq_true rfl) ⟨(Nat.le_of_ble_eq_true rfl), (Nat.le_of_ble_eq_true rfl)⟩ ⟨(Nat.le_of_ble_eq_true rfl), (Nat.le_of_ble_eq_true rfl)⟩ dX2_digest_24 (fun _ _ z => False.elim z) (fun v9 ws9 h13 => ?_)
  obtain ⟨r15, K16, hK16, rfl, hw9⟩ := h13
  subst ws9
  dsimp only [mPush]
  refine r_lstore_n hX dX2_digest_27 rfl (by decide) rfl ?_
  refine r_aload_n hX dX2_digest_28 rfl rfl ?_
  refine r_lload_n hX dX2_digest_29 rfl rfl ?_
  refine r_callV hX (c_X2_withDatePairs _ _ _ _ _) kv_X2_235 0 rfl rfl rfl rfl (Nat.le_of_ble_eq_true rfl) ⟨(Nat.le_of_ble_eq_true rfl), (Nat.le_of_ble_eq_true rfl)⟩ ⟨(Nat.le_of_ble_eq_true rfl), (Nat.le_of_ble_eq_true rfl)⟩ dX2_digest_30 (fun _ _ z => False.elim z) (fun v9 ws9 h17 => ?_)
  obtain ⟨r19, K20, hK20, rfl, hw9⟩ := h17
  subst ws9
  dsimp only [mPush]
  refine r_lstore_n hX dX2_digest_33 rfl (by decide) rfl ?_
  refine r_aload_n hX dX2_digest_34 rfl rfl ?_
  refine r_lload_n hX dX2_digest_35 rfl rfl ?_
  refine r_callV hX (c_X2_withClockPairs _ _ _ _ _) kv_X2_238 0 rfl rfl rfl rfl (Nat.le_of_ble_eq_true rfl) ⟨(Nat.le_of_ble_eq_true rfl), (Nat.le_of_ble_eq_true rfl)⟩ ⟨(Nat.le_of_ble_eq_true rfl), (Nat.le_of_ble_eq_true rfl)⟩ dX2_digest_36 (fun _ _ z => False.elim z) (fun v9 ws9 h21 => ?_)
  obtain ⟨r23, K24, hK24, rfl, hw9⟩ := h21
  subst ws9
  dsimp only [mPush]
  refine r_lstore_n hX dX2_digest_39 rfl (by decide) rfl ?_
  refine r_aload_n hX dX2_digest_40 rfl rfl ?_
  refine r_lload_n hX dX2_digest_41 rfl rfl ?_
  refine r_callV hX (c_X2_withHouse _ _ _ _ _) kv_X2_241 0 rfl rfl rfl rfl (Nat.le_of_ble_eq_true rfl) ⟨(Nat.le_of_ble_eq_true rfl), (Nat.le_of_ble_eq_true rfl)⟩ ⟨(Nat.le_of_ble_eq_true rfl), (Nat.le_of_ble_eq_true rfl)⟩ dX2_digest_42 (fun _ _ z => False.elim z) (fun v9 ws9 h25 => ?_)
  obtain ⟨r27, K28, hK28, rfl, hw9⟩ := h25
  subst ws9
  dsimp only [mPush]
  refine r_lstore_n hX dX2_digest_45 rfl (by decide) rfl ?_
  refine r_lload_n hX dX2_digest_46 rfl rfl ?_
  refine r_aload_n hX dX2_digest_47 rfl rfl ?_
  refine r_callV hX (c_X2_isSound _ _ _ _) kv_X2_244 0 rfl rfl rfl rfl (Nat.le_of_ble_eq_true rfl) ⟨(Nat.le_of_ble_eq_true rfl), (Nat.le_of_ble_eq_true rfl)⟩ ⟨(Nat.le_of_ble_eq_true rfl), (Nat.le_of_ble_eq_true rfl)⟩ dX2_digest_48 (fun _ _ z => False.elim z) (fun v9 ws9 h29 => ?_)
  obtain ⟨r31, K32, br31, hK32, rfl, hw9⟩ := h29
  subst ws9
  dsimp only [mPush]
  refine r_if_eq (tgt := 58) hX dX2_digest_51 (by decide) (fun c33 => ?_) (fun c33 => ?_)
  · refine r_lconst (v := 0) hX dX2_digest_58 (by decide) ?_
    refine r_callS hX (c_X2_added _ _ _ _) ks_X2_247 rfl rfl (Nat.le_of_ble_eq_true rfl) ⟨(Nat.le_of_ble_eq_true rfl), (Nat.le_of_ble_eq_true rfl)⟩ ⟨(Nat.le_of_ble_eq_true rfl), (Nat.le_of_ble_eq_true rfl)⟩ dX2_digest_59 (fun _ _ z => False.elim z) (fun v9 ws9 h34 => ?_)
    obtain ⟨r36, rfl, hw9⟩ := h34
    subst ws9
    dsimp only [mPush]
    exact r_lret hX hE dX2_digest_62 (Nat.le_of_ble_eq_true rfl) (Nat.le_of_ble_eq_true rfl) ⟨_, K32, (hK32.trans (hK28.trans (hK24.trans (hK20.trans (hK16.trans (hK12.trans (hK8.trans (hK4.trans rfl)))))))), rfl, rfl⟩
  · refine r_lconst (v := 1) hX dX2_digest_54 (by decide) ?_
    refine r_goto (tgt := 59) hX dX2_digest_55 (by decide) ?_
    refine r_callS hX (c_X2_added _ _ _ _) ks_X2_247 rfl rfl (Nat.le_of_ble_eq_true rfl) ⟨(Nat.le_of_ble_eq_true rfl), (Nat.le_of_ble_eq_true rfl)⟩ ⟨(Nat.le_of_ble_eq_true rfl), (Nat.le_of_ble_eq_true rfl)⟩ dX2_digest_59 (fun _ _ z => False.elim z) (fun v9 ws9 h37 => ?_)
    obtain ⟨r39, rfl, hw9⟩ := h37
    subst ws9
    dsimp only [mPush]
    exact r_lret hX hE dX2_digest_62 (Nat.le_of_ble_eq_true rfl) (Nat.le_of_ble_eq_true rfl) ⟨_, K32, (hK32.trans (hK28.trans (hK24.trans (hK20.trans (hK16.trans (hK12.trans (hK8.trans (hK4.trans rfl)))))))), rfl, rfl⟩
