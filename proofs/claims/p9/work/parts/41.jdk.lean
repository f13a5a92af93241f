/-! The class's millis. (Rows by a program of this repository.) -/
theorem dX2_millis_w0 : (cX2_millis.data.toList.drop 0).take 64 = [27, 42, 180, 0, 13, 190, 184, 0, 34, 42, 180, 0, 13, 27, 47, 20, 0, 78, 184, 0, 100, 184, 0, 106, 176] := by decide +kernel
theorem dX2_millis_0 : decode cX2_millis 0 = .ok (.iload_n 1, 1) := dk_27 (dq_lk dX2_millis_w0 (r := 0) (x := 27) rfl)
theorem dX2_millis_1 : decode cX2_millis 1 = .ok (.aload_n 0, 1) := dk_42 (dq_lk dX2_millis_w0 (r := 1) (x := 42) rfl)
theorem dX2_millis_2 : decode cX2_millis 2 = .ok (.getfield 13, 3) := dk_180 (dq_lk dX2_millis_w0 (r := 2) (x := 180) rfl) (dq_lk dX2_millis_w0 (r := 3) (x := 0) rfl) (dq_lk dX2_millis_w0 (r := 4) (x := 13) rfl)
theorem dX2_millis_5 : decode cX2_millis 5 = .ok (.arraylength, 1) := dk_190 (dq_lk dX2_millis_w0 (r := 5) (x := 190) rfl)
theorem dX2_millis_6 : decode cX2_millis 6 = .ok (.invokestatic 34, 3) := dk_184 (dq_lk dX2_millis_w0 (r := 6) (x := 184) rfl) (dq_lk dX2_millis_w0 (r := 7) (x := 0) rfl) (dq_lk dX2_millis_w0 (r := 8) (x := 34) rfl)
theorem dX2_millis_9 : decode cX2_millis 9 = .ok (.aload_n 0, 1) := dk_42 (dq_lk dX2_millis_w0 (r := 9) (x := 42) rfl)
theorem dX2_millis_10 : decode cX2_millis 10 = .ok (.getfield 13, 3) := dk_180 (dq_lk dX2_millis_w0 (r := 10) (x := 180) rfl) (dq_lk dX2_millis_w0 (r := 11) (x := 0) rfl) (dq_lk dX2_millis_w0 (r := 12) (x := 13) rfl)
theorem dX2_millis_13 : decode cX2_millis 13 = .ok (.iload_n 1, 1) := dk_27 (dq_lk dX2_millis_w0 (r := 13) (x := 27) rfl)
theorem dX2_millis_14 : decode cX2_millis 14 = .ok (.laload, 1) := dk_47 (dq_lk dX2_millis_w0 (r := 14) (x := 47) rfl)
theorem dX2_millis_15 : decode cX2_millis 15 = .ok (.ldc2_w 78, 3) := dk_20 (dq_lk dX2_millis_w0 (r := 15) (x := 20) rfl) (dq_lk dX2_millis_w0 (r := 16) (x := 0) rfl) (dq_lk dX2_millis_w0 (r := 17) (x := 78) rfl)
theorem dX2_millis_18 : decode cX2_millis 18 = .ok (.invokestatic 100, 3) := dk_184 (dq_lk dX2_millis_w0 (r := 18) (x := 184) rfl) (dq_lk dX2_millis_w0 (r := 19) (x := 0) rfl) (dq_lk dX2_millis_w0 (r := 20) (x := 100) rfl)
theorem dX2_millis_21 : decode cX2_millis 21 = .ok (.invokestatic 106, 3) := dk_184 (dq_lk dX2_millis_w0 (r := 21) (x := 184) rfl) (dq_lk dX2_millis_w0 (r := 22) (x := 0) rfl) (dq_lk dX2_millis_w0 (r := 23) (x := 106) rfl)
theorem dX2_millis_24 : decode cX2_millis 24 = .ok (.areturn, 1) := dk_176 (dq_lk dX2_millis_w0 (r := 24) (x := 176) rfl)
set_option maxHeartbeats 1000000 in
theorem c_X2_millis (ad : Nat → Nat) (cs : ClassId × ClassId × ClassId) (K : mK) (rest : va_W) (p0 : Int32) : mCt (mTy cs) yX2_millis cX2_millis 2 (some (.object "java/lang/String")) ⟨7, 31, 1506, 310⟩ [.ref (ad 0), .int p0] (mWd ad cs K rest) (fun v9 ws' => (∃ s : Nat, v9 = some (.ref s)) ∧ ws' = mWd ad cs K rest) (mTh [xI] (mWd ad cs K rest)) := by
  refine mCt.of (by decide +kernel) (Nat.le_of_ble_eq_true rfl) (fun X hX hE => ?_)
  replace hX : mOK X RX2 cX2_millis 2 ⟨7, 31, 1506, 310⟩ [] (mTy cs) := hX
  refine r_iload_n hX dX2_millis_0 rfl rfl ?_
  refine r_aload_n hX dX2_millis_1 rfl rfl ?_
  refine r_get hX kf_X2_13 0 rfl rfl dX2_millis_2 ?_
  refine r_alen (v := nI 4) hX 2 1 rfl rfl rfl dX2_millis_5 ?_
  refine r_callS hX (c_X2_requireOne _ _ _ 4 (by decide)) ks_X2_34 rfl rfl (Nat.le_of_ble_eq_true rfl) ⟨(Nat.le_of_ble_eq_true rfl), (Nat.le_of_ble_eq_true rfl)⟩ ⟨(Nat.le_of_ble_eq_true rfl), (Nat.le_of_ble_eq_true rfl)⟩ dX2_millis_6 (fun E ws9 z => r_out hX hE (Nat.le_of_ble_eq_true rfl) (Nat.le_of_ble_eq_true rfl) (⟨by rw [z.1]; exact List.mem_cons_self, z.2.1⟩)) (fun v9 ws9 h1 => ?_)
  obtain ⟨j, hj, rfl, rfl, hw9⟩ := h1
  subst ws9
  dsimp only [mPush]
  refine r_aload_n hX dX2_millis_9 rfl rfl ?_
  refine r_get hX kf_X2_13 0 rfl rfl dX2_millis_10 ?_
  refine r_iload_n hX dX2_millis_13 rfl rfl ?_
  refine r_lald hX 2 1 rfl rfl (vp_in_nI hj (by decide)) dX2_millis_14 ?_
  refine r_ldc2 hX kc_X2_78 dX2_millis_15 ?_
  refine r_callS hX (c_J9_floorDiv_f86c9 _ _ _ _ (by decide)) ks_X2_100 rfl rfl (Nat.le_of_ble_eq_true rfl) ⟨(Nat.le_of_ble_eq_true rfl), (Nat.le_of_ble_eq_true rfl)⟩ ⟨(Nat.le_of_ble_eq_true rfl), (Nat.le_of_ble_eq_true rfl)⟩ dX2_millis_18 (fun _ _ z => False.elim z) (fun v9 ws9 h1 => ?_)
  obtain ⟨r, rfl, hw9⟩ := h1
  subst ws9
  dsimp only [mPush]
  refine r_callS hX (c_textOf cs _ r) ks_X2_106 rfl rfl (Nat.le_of_ble_eq_true rfl) ⟨(Nat.le_of_ble_eq_true rfl), (Nat.le_of_ble_eq_true rfl)⟩ ⟨(Nat.le_of_ble_eq_true rfl), (Nat.le_of_ble_eq_true rfl)⟩ dX2_millis_21 (fun _ _ z => False.elim z) (fun v9 ws9 h1 => ?_)
  obtain ⟨⟨s, rfl⟩, hw9⟩ := h1
  subst ws9
  dsimp only [mPush]
  exact r_aret hX hE dX2_millis_24 (Or.inl ⟨_, rfl⟩) (Or.inr ⟨_, rfl⟩) (Nat.le_of_ble_eq_true rfl) (Nat.le_of_ble_eq_true rfl) ⟨⟨s, rfl⟩, rfl⟩

