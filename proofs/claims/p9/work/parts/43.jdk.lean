/-! append(long), the reference's millis. (Rows by a program of this repository.) -/
set_option maxHeartbeats 1000000 in
theorem c_asbAppendJ (cs : ClassId × ClassId × ClassId) (cB : ClassId) (b v : Nat) (ml : Int32) (n m : Nat) (f : Nat → Int32) (rest : va_W) (x : Int64) (hf : sb_Fit f) (h2 : n + 20 ≤ 2 * m + 2) (h3 : m ≤ 31) : mCt (mTb4 cs cB) yJ5_append_66267 cJ5_append_66267 5 (some (.object "java/lang/AbstractStringBuilder")) ⟨4, 1, 64, 170⟩ [.ref b, .long x] (mSb b v ml n cB m f rest) (fun v9 ws' => v9 = some (.ref b) ∧ ∃ (v' n' m' : Nat) (f' : Nat → Int32), sb_Fit f' ∧ n' ≤ m' ∧ m' ≤ 64 ∧ ws' = mSb b v' ml n' cB m' f' rest) mNo := by
  refine mCt.of (by decide +kernel) (Nat.le_of_ble_eq_true rfl) (fun X hX hE => ?_)
  replace hX : mOK X RJ5 cJ5_append_66267 5 ⟨4, 1, 64, 170⟩ [] (mTb4 cs cB) := hX
  refine r_aload_n hX dJ5_append_66267_0 rfl rfl ?_
  refine r_get hX jf_J5_79 0 rfl rfl dJ5_append_66267_1 ?_
  refine r_istore_n hX dJ5_append_66267_4 rfl (by decide) rfl ?_
  refine r_iload_n hX dJ5_append_66267_5 rfl rfl ?_
  refine r_lload_n hX dJ5_append_66267_6 rfl rfl ?_
  refine r_callS hX (c_stringSize _ _ x) js_J5_254 rfl rfl (Nat.le_of_ble_eq_true rfl) ⟨(Nat.le_of_ble_eq_true rfl), (Nat.le_of_ble_eq_true rfl)⟩ ⟨(Nat.le_of_ble_eq_true rfl), (Nat.le_of_ble_eq_true rfl)⟩ dJ5_append_66267_7 (fun _ _ z => False.elim z) (fun v9 ws9 h9 => ?_)
  obtain ⟨d, g1, g2, g3, rfl, hw9⟩ := h9
  subst ws9
  dsimp only [mPush]
  have hs2 : (if x.toInt < 0 then 1 else 0 : Nat) ≤ 1 := by split <;> omega
  generalize hsg : (if x.toInt < 0 then 1 else 0 : Nat) = sg at hs2 ⊢
  refine r_iadd hX dJ5_append_66267_10 ?_
  rw [nI_add, show n + (d + sg) = n + sg + d by omega]
  refine r_istore hX dJ5_append_66267_11 (by decide) rfl ?_
  refine r_aload_n hX dJ5_append_66267_13 rfl rfl ?_
  refine r_iload hX dJ5_append_66267_14 rfl ?_
  refine r_callU hX mGT_h (c_ensure cs cB b v ml n m (n + sg + d) f rest hf (Or.inr ⟨by omega, h3⟩) (by omega)).ofg ju_J5_100 (as := [.int (nI (n + sg + d))]) 0 rfl (show vwCl[1]? = _ from rfl) rfl rfl (Nat.le_of_ble_eq_true rfl) ⟨(Nat.le_of_ble_eq_true rfl), (Nat.le_of_ble_eq_true rfl)⟩ ⟨(Nat.le_of_ble_eq_true rfl), (Nat.le_of_ble_eq_true rfl)⟩ dJ5_append_66267_16 (fun v9 ws9 h8 => ?_)
  obtain ⟨rfl, v1, f1, hf1, hw9⟩ := h8
  subst ws9
  dsimp only [mPush]
  have hm1 : n + sg + d ≤ (if n + sg + d ≤ m then m else 2 * m + 2) ∧ (if n + sg + d ≤ m then m else 2 * m + 2) ≤ 64 := by split <;> omega
  generalize (if n + sg + d ≤ m then m else 2 * m + 2) = m1 at hm1 ⊢
  refine r_aload_n hX dJ5_append_66267_19 rfl rfl ?_
  refine r_callU hX mGT_h (c_isLatin1 _ _ 0 b _ _ _ rfl).ofg ju_J5_83 0 rfl (show vwCl[1]? = _ from rfl) rfl rfl (Nat.le_of_ble_eq_true rfl) ⟨(Nat.le_of_ble_eq_true rfl), (Nat.le_of_ble_eq_true rfl)⟩ ⟨(Nat.le_of_ble_eq_true rfl), (Nat.le_of_ble_eq_true rfl)⟩ dJ5_append_66267_20 (fun v9 ws9 h8 => ?_)
  obtain ⟨rfl, hw9⟩ := h8
  subst ws9
  dsimp only [mPush]
  refine r_if_eq (tgt := 40) hX dJ5_append_66267_23 (by decide) (fun c9 => absurd c9 (by decide)) (fun _ => ?_)
  refine r_lload_n hX dJ5_append_66267_26 rfl rfl ?_
  refine r_iload hX dJ5_append_66267_27 rfl ?_
  refine r_aload_n hX dJ5_append_66267_29 rfl rfl ?_
  refine r_get hX jf_J5_15 0 rfl rfl dJ5_append_66267_30 ?_
  refine r_callS hX (c_getChars cs cB b v1 ml n m1 f1 rest hf1 hm1.2 x n d sg g1 g3 hsg.symm hm1.1) js_J5_259 rfl rfl (Nat.le_of_ble_eq_true rfl) ⟨(Nat.le_of_ble_eq_true rfl), (Nat.le_of_ble_eq_true rfl)⟩ ⟨(Nat.le_of_ble_eq_true rfl), (Nat.le_of_ble_eq_true rfl)⟩ dJ5_append_66267_33 (fun _ _ z => False.elim z) (fun v9 ws9 h8 => ?_)
  obtain ⟨⟨r, rfl⟩, f2, hf2, hw9⟩ := h8
  subst ws9
  dsimp only [mPush]
  refine r_pop hX dJ5_append_66267_36 rfl ?_
  refine r_goto (tgt := 52) hX dJ5_append_66267_37 (by decide) ?_
  refine r_aload_n hX dJ5_append_66267_52 rfl rfl ?_
  refine r_iload hX dJ5_append_66267_53 rfl ?_
  refine r_put hX jf_J5_79 0 rfl rfl rfl rfl (Nat.le_of_ble_eq_true rfl) dJ5_append_66267_55 ?_
  refine r_aload_n hX dJ5_append_66267_58 rfl rfl ?_
  exact r_aret hX hE dJ5_append_66267_59 (Or.inl ⟨_, rfl⟩) (Or.inr ⟨_, rfl⟩) (Nat.le_of_ble_eq_true rfl) (Nat.le_of_ble_eq_true rfl) ⟨rfl, v1, n + sg + d, m1, f2, hf2, hm1.1, hm1.2, rfl⟩
set_option maxHeartbeats 1000000 in
theorem c_sbAppendJ (cs : ClassId × ClassId × ClassId) (cB : ClassId) (b v : Nat) (ml : Int32) (n m : Nat) (f : Nat → Int32) (rest : va_W) (x : Int64) (hf : sb_Fit f) (h2 : n + 20 ≤ 2 * m + 2) (h3 : m ≤ 31) : mCt (mTb4 cs cB) yJ4_append_f7089 cJ4_append_f7089 3 (some (.object "java/lang/StringBuilder")) ⟨5, 1, 64, 200⟩ [.ref b, .long x] (mSb b v ml n cB m f rest) (fun v9 ws' => v9 = some (.ref b) ∧ ∃ (v' n' m' : Nat) (f' : Nat → Int32), sb_Fit f' ∧ n' ≤ m' ∧ m' ≤ 64 ∧ ws' = mSb b v' ml n' cB m' f' rest) mNo := by
  refine mCt.of (by decide +kernel) (Nat.le_of_ble_eq_true rfl) (fun X hX hE => ?_)
  replace hX : mOK X RJ4 cJ4_append_f7089 3 ⟨5, 1, 64, 200⟩ [] (mTb4 cs cB) := hX
  refine r_aload_n hX dJ4_append_f7089_0 rfl rfl ?_
  refine r_lload_n hX dJ4_append_f7089_1 rfl rfl ?_
  refine r_callSU hX mGT_h (c_asbAppendJ cs cB b v ml n m f rest x hf h2 h3).ofg jsu_J4_56 (as := [.long x]) 0 rfl (show vwCl[1]? = _ from rfl) rfl rfl (Nat.le_of_ble_eq_true rfl) ⟨(Nat.le_of_ble_eq_true rfl), (Nat.le_of_ble_eq_true rfl)⟩ ⟨(Nat.le_of_ble_eq_true rfl), (Nat.le_of_ble_eq_true rfl)⟩ dJ4_append_f7089_2 (fun v9 ws9 h8 => ?_)
  obtain ⟨rfl, v1, n1, m1, f1, hf1, k1, k2, hw9⟩ := h8
  subst ws9
  dsimp only [mPush]
  refine r_pop hX dJ4_append_f7089_5 rfl ?_
  refine r_aload_n hX dJ4_append_f7089_6 rfl rfl ?_
  exact r_aret hX hE dJ4_append_f7089_7 (Or.inl ⟨_, rfl⟩) (Or.inr ⟨_, rfl⟩) (Nat.le_of_ble_eq_true rfl) (Nat.le_of_ble_eq_true rfl) ⟨rfl, v1, n1, m1, f1, hf1, k1, k2, rfl⟩
theorem dX4_millis_w0 : (cX4_millis.data.toList.drop 0).take 64 = [42, 27, 184, 0, 61, 3, 182, 0, 68, 153, 0, 8, 18, 119, 167, 0, 33, 187, 0, 121, 89, 183, 0, 123, 18, 119, 182, 0, 124, 42, 180, 0, 13, 27, 47, 20, 0, 111, 184, 0, 92, 182, 0, 128, 182, 0, 131, 176] := by decide +kernel
theorem dX4_millis_0 : decode cX4_millis 0 = .ok (.aload_n 0, 1) := dk_42 (dq_lk dX4_millis_w0 (r := 0) (x := 42) rfl)
theorem dX4_millis_1 : decode cX4_millis 1 = .ok (.iload_n 1, 1) := dk_27 (dq_lk dX4_millis_w0 (r := 1) (x := 27) rfl)
theorem dX4_millis_2 : decode cX4_millis 2 = .ok (.invokestatic 61, 3) := dk_184 (dq_lk dX4_millis_w0 (r := 2) (x := 184) rfl) (dq_lk dX4_millis_w0 (r := 3) (x := 0) rfl) (dq_lk dX4_millis_w0 (r := 4) (x := 61) rfl)
theorem dX4_millis_5 : decode cX4_millis 5 = .ok (.iconst 0, 1) := dk_3 (dq_lk dX4_millis_w0 (r := 5) (x := 3) rfl)
theorem dX4_millis_6 : decode cX4_millis 6 = .ok (.invokevirtual 68, 3) := dk_182 (dq_lk dX4_millis_w0 (r := 6) (x := 182) rfl) (dq_lk dX4_millis_w0 (r := 7) (x := 0) rfl) (dq_lk dX4_millis_w0 (r := 8) (x := 68) rfl)
theorem dX4_millis_9 : decode cX4_millis 9 = .ok (.ifCond .eq 8, 3) := dk_153 (dq_lk dX4_millis_w0 (r := 9) (x := 153) rfl) (dq_lk dX4_millis_w0 (r := 10) (x := 0) rfl) (dq_lk dX4_millis_w0 (r := 11) (x := 8) rfl) (by decide +kernel)
theorem dX4_millis_12 : decode cX4_millis 12 = .ok (.ldc 119, 2) := dk_18 (dq_lk dX4_millis_w0 (r := 12) (x := 18) rfl) (dq_lk dX4_millis_w0 (r := 13) (x := 119) rfl)
theorem dX4_millis_14 : decode cX4_millis 14 = .ok (.goto 33, 3) := dk_167 (dq_lk dX4_millis_w0 (r := 14) (x := 167) rfl) (dq_lk dX4_millis_w0 (r := 15) (x := 0) rfl) (dq_lk dX4_millis_w0 (r := 16) (x := 33) rfl) (by decide +kernel)
theorem dX4_millis_17 : decode cX4_millis 17 = .ok (.new 121, 3) := dk_187 (dq_lk dX4_millis_w0 (r := 17) (x := 187) rfl) (dq_lk dX4_millis_w0 (r := 18) (x := 0) rfl) (dq_lk dX4_millis_w0 (r := 19) (x := 121) rfl)
theorem dX4_millis_20 : decode cX4_millis 20 = .ok (.dup, 1) := dk_89 (dq_lk dX4_millis_w0 (r := 20) (x := 89) rfl)
theorem dX4_millis_21 : decode cX4_millis 21 = .ok (.invokespecial 123, 3) := dk_183 (dq_lk dX4_millis_w0 (r := 21) (x := 183) rfl) (dq_lk dX4_millis_w0 (r := 22) (x := 0) rfl) (dq_lk dX4_millis_w0 (r := 23) (x := 123) rfl)
theorem dX4_millis_24 : decode cX4_millis 24 = .ok (.ldc 119, 2) := dk_18 (dq_lk dX4_millis_w0 (r := 24) (x := 18) rfl) (dq_lk dX4_millis_w0 (r := 25) (x := 119) rfl)
theorem dX4_millis_26 : decode cX4_millis 26 = .ok (.invokevirtual 124, 3) := dk_182 (dq_lk dX4_millis_w0 (r := 26) (x := 182) rfl) (dq_lk dX4_millis_w0 (r := 27) (x := 0) rfl) (dq_lk dX4_millis_w0 (r := 28) (x := 124) rfl)
theorem dX4_millis_29 : decode cX4_millis 29 = .ok (.aload_n 0, 1) := dk_42 (dq_lk dX4_millis_w0 (r := 29) (x := 42) rfl)
theorem dX4_millis_30 : decode cX4_millis 30 = .ok (.getfield 13, 3) := dk_180 (dq_lk dX4_millis_w0 (r := 30) (x := 180) rfl) (dq_lk dX4_millis_w0 (r := 31) (x := 0) rfl) (dq_lk dX4_millis_w0 (r := 32) (x := 13) rfl)
theorem dX4_millis_33 : decode cX4_millis 33 = .ok (.iload_n 1, 1) := dk_27 (dq_lk dX4_millis_w0 (r := 33) (x := 27) rfl)
theorem dX4_millis_34 : decode cX4_millis 34 = .ok (.laload, 1) := dk_47 (dq_lk dX4_millis_w0 (r := 34) (x := 47) rfl)
theorem dX4_millis_35 : decode cX4_millis 35 = .ok (.ldc2_w 111, 3) := dk_20 (dq_lk dX4_millis_w0 (r := 35) (x := 20) rfl) (dq_lk dX4_millis_w0 (r := 36) (x := 0) rfl) (dq_lk dX4_millis_w0 (r := 37) (x := 111) rfl)
theorem dX4_millis_38 : decode cX4_millis 38 = .ok (.invokestatic 92, 3) := dk_184 (dq_lk dX4_millis_w0 (r := 38) (x := 184) rfl) (dq_lk dX4_millis_w0 (r := 39) (x := 0) rfl) (dq_lk dX4_millis_w0 (r := 40) (x := 92) rfl)
theorem dX4_millis_41 : decode cX4_millis 41 = .ok (.invokevirtual 128, 3) := dk_182 (dq_lk dX4_millis_w0 (r := 41) (x := 182) rfl) (dq_lk dX4_millis_w0 (r := 42) (x := 0) rfl) (dq_lk dX4_millis_w0 (r := 43) (x := 128) rfl)
theorem dX4_millis_44 : decode cX4_millis 44 = .ok (.invokevirtual 131, 3) := dk_182 (dq_lk dX4_millis_w0 (r := 44) (x := 182) rfl) (dq_lk dX4_millis_w0 (r := 45) (x := 0) rfl) (dq_lk dX4_millis_w0 (r := 46) (x := 131) rfl)
theorem dX4_millis_47 : decode cX4_millis 47 = .ok (.areturn, 1) := dk_176 (dq_lk dX4_millis_w0 (r := 47) (x := 176) rfl)
