/-! Text methods of the JDK, their contracts. (Rows by a program of this repository.) -/
set_option maxHeartbeats 1000000 in
theorem c_coder (tys : List (ClassId × FieldType)) (ws : va_W) (a : Nat) : mCg (mEm a) tys yJ0_coder_7d493 cJ0_coder_7d493 1 (some .byte) ⟨0, 0, 0, 0⟩ [.ref a] ws (fun v9 ws' => v9 = some (.int 0) ∧ ws' = ws) := by
  refine mCg.of (mEm_s a) (by decide +kernel) (Nat.le_of_ble_eq_true rfl) (fun X hX hg hE => ?_)
  replace hX : mOK X RJ0 cJ0_coder_7d493 1 ⟨0, 0, 0, 0⟩ [] tys := hX
  refine r_compact hX jfl_J0_38 dJ0_coder_7d493_0 ?_
  refine r_if_eq (tgt := 13) hX dJ0_coder_7d493_3 (by decide) (fun c9 => absurd c9 (by decide)) (fun _ => ?_)
  refine r_aload_n hX dJ0_coder_7d493_6 rfl rfl ?_
  refine r_emCoder hX hg jfl_J0_15 dJ0_coder_7d493_7 ?_
  refine r_goto (tgt := 14) hX dJ0_coder_7d493_10 (by decide) ?_
  exact r_zret hX hE dJ0_coder_7d493_14 (by decide) (Nat.le_of_ble_eq_true rfl) (Nat.le_of_ble_eq_true rfl) ⟨rfl, rfl⟩
set_option maxHeartbeats 1000000 in
theorem c_strLength (tys : List (ClassId × FieldType)) (ws : va_W) (a : Nat) : mCg (mEm a) tys yJ0_length_8abf5 cJ0_length_8abf5 1 (some .int) ⟨1, 0, 0, 20⟩ [.ref a] ws (fun v9 ws' => v9 = some (.int 0) ∧ ws' = ws) := by
  refine mCg.of (mEm_s a) (by decide +kernel) (Nat.le_of_ble_eq_true rfl) (fun X hX hg hE => ?_)
  replace hX : mOK X RJ0 cJ0_length_8abf5 1 ⟨1, 0, 0, 20⟩ [] tys := hX
  refine r_aload_n hX dJ0_length_8abf5_0 rfl rfl ?_
  refine r_emValue hX hg jfl_J0_9 dJ0_length_8abf5_1 (fun v hv => ?_)
  refine r_emLen hX hv dJ0_length_8abf5_4 ?_
  refine r_aload_n hX dJ0_length_8abf5_5 rfl rfl ?_
  refine r_callVe hX hg rfl (c_coder _ _ a) jv_J0_335 (as := []) rfl rfl (Nat.le_of_ble_eq_true rfl) ⟨(Nat.le_of_ble_eq_true rfl), (Nat.le_of_ble_eq_true rfl)⟩ ⟨(Nat.le_of_ble_eq_true rfl), (Nat.le_of_ble_eq_true rfl)⟩ dJ0_length_8abf5_6 (fun v9 ws9 h8 => ?_)
  obtain ⟨rfl, hw9⟩ := h8
  subst ws9
  dsimp only [mPush]
  refine r_ishr hX dJ0_length_8abf5_9 ?_
  exact r_iret hX hE dJ0_length_8abf5_10 (Nat.le_of_ble_eq_true rfl) (Nat.le_of_ble_eq_true rfl) ⟨rfl, rfl⟩
set_option maxHeartbeats 1000000 in
theorem c_inflateIf (cs : ClassId × ClassId × ClassId) (cB : ClassId) (a b v : Nat) (ml : Int32) (n m : Nat) (f : Nat → Int32) (rest : va_W) : mCg (mEm a) (mTb4 cs cB) yJ5_inflateIfNeededFor_a7421 cJ5_inflateIfNeededFor_a7421 2 none ⟨1, 0, 0, 20⟩ [.ref b, .ref a] (mSb b v ml n cB m f rest) (fun v9 ws' => v9 = none ∧ ws' = mSb b v ml n cB m f rest) := by
  refine mCg.of (mEm_s a) (by decide +kernel) (Nat.le_of_ble_eq_true rfl) (fun X hX hg hE => ?_)
  replace hX : mOK X RJ5 cJ5_inflateIfNeededFor_a7421 2 ⟨1, 0, 0, 20⟩ [] (mTb4 cs cB) := hX
  refine r_compact hX jfl_J5_18 dJ5_inflateIfNeededFor_a7421_0 ?_
  refine r_if_eq (tgt := 21) hX dJ5_inflateIfNeededFor_a7421_3 (by decide) (fun c9 => absurd c9 (by decide)) (fun _ => ?_)
  refine r_aload_n hX dJ5_inflateIfNeededFor_a7421_6 rfl rfl ?_
  refine r_get hX jf_J5_22 0 rfl rfl dJ5_inflateIfNeededFor_a7421_7 ?_
  refine r_aload_n hX dJ5_inflateIfNeededFor_a7421_10 rfl rfl ?_
  refine r_callVe hX hg rfl (c_coder _ _ a) jv_J5_40 (as := []) rfl rfl (Nat.le_of_ble_eq_true rfl) ⟨(Nat.le_of_ble_eq_true rfl), (Nat.le_of_ble_eq_true rfl)⟩ ⟨(Nat.le_of_ble_eq_true rfl), (Nat.le_of_ble_eq_true rfl)⟩ dJ5_inflateIfNeededFor_a7421_11 (fun v9 ws9 h8 => ?_)
  obtain ⟨rfl, hw9⟩ := h8
  subst ws9
  dsimp only [mPush]
  refine r_icmp_eq (tgt := 21) hX dJ5_inflateIfNeededFor_a7421_14 (by decide) (fun _ => ?_) (fun c9 => absurd rfl c9)
  exact r_vret hX hE dJ5_inflateIfNeededFor_a7421_21 (Nat.le_of_ble_eq_true rfl) (Nat.le_of_ble_eq_true rfl) ⟨rfl, rfl⟩
set_option maxHeartbeats 1000000 in
theorem c_getBytes (cs : ClassId × ClassId × ClassId) (cB : ClassId) (a b v : Nat) (ml : Int32) (n m : Nat) (f : Nat → Int32) (rest : va_W) (h2 : n ≤ m) (h3 : m ≤ 64) : mCg (mEm a) (mTb4 cs cB) yJ0_getBytes_840e7 cJ0_getBytes_840e7 4 none ⟨1, 0, 0, 110⟩ [.ref a, .ref v, .int (nI n), .int 0] (mSb b v ml n cB m f rest) (fun v9 ws' => v9 = none ∧ ws' = mSb b v ml n cB m f rest) := by
  refine mCg.of (mEm_s a) (by decide +kernel) (Nat.le_of_ble_eq_true rfl) (fun X hX hg hE => ?_)
  replace hX : mOK X RJ0 cJ0_getBytes_840e7 4 ⟨1, 0, 0, 110⟩ [] (mTb4 cs cB) := hX
  refine r_aload_n hX dJ0_getBytes_840e7_0 rfl rfl ?_
  refine r_callVe hX hg rfl (c_coder _ _ a) jv_J0_335 (as := []) rfl rfl (Nat.le_of_ble_eq_true rfl) ⟨(Nat.le_of_ble_eq_true rfl), (Nat.le_of_ble_eq_true rfl)⟩ ⟨(Nat.le_of_ble_eq_true rfl), (Nat.le_of_ble_eq_true rfl)⟩ dJ0_getBytes_840e7_1 (fun v9 ws9 h8 => ?_)
  obtain ⟨rfl, hw9⟩ := h8
  subst ws9
  dsimp only [mPush]
  refine r_iload_n hX dJ0_getBytes_840e7_4 rfl rfl ?_
  refine r_icmp_ne (tgt := 28) hX dJ0_getBytes_840e7_5 (by decide) (fun c9 => absurd rfl c9) (fun _ => ?_)
  refine r_aload_n hX dJ0_getBytes_840e7_8 rfl rfl ?_
  refine r_emValue hX hg jfl_J0_9 dJ0_getBytes_840e7_9 (fun v1 hv1 => ?_)
  refine r_iconst (v := 0) hX dJ0_getBytes_840e7_12 (by decide) ?_
  refine r_aload_n hX dJ0_getBytes_840e7_13 rfl rfl ?_
  refine r_iload_n hX dJ0_getBytes_840e7_14 rfl rfl ?_
  refine r_iload_n hX dJ0_getBytes_840e7_15 rfl rfl ?_
  refine r_ishl hX dJ0_getBytes_840e7_16 ?_
  refine r_aload_n hX dJ0_getBytes_840e7_17 rfl rfl ?_
  refine r_emValue hX hg jfl_J0_9 dJ0_getBytes_840e7_18 (fun v2 hv2 => ?_)
  refine r_emLen hX hv2 dJ0_getBytes_840e7_21 ?_
  refine r_emCopy hX hv1 jl_J0_212 1 3 rfl rfl (nI_pos (by omega)) (by rw [nI_clamp (by omega)]; exact h2) (Nat.le_of_ble_eq_true rfl) (Nat.le_of_ble_eq_true rfl) dJ0_getBytes_840e7_22 ?_
  refine r_goto (tgt := 43) hX dJ0_getBytes_840e7_25 (by decide) ?_
  exact r_vret hX hE dJ0_getBytes_840e7_43 (Nat.le_of_ble_eq_true rfl) (Nat.le_of_ble_eq_true rfl) ⟨rfl, rfl⟩
set_option maxHeartbeats 1000000 in
theorem c_putStringAt (cs : ClassId × ClassId × ClassId) (cB : ClassId) (a b v : Nat) (ml : Int32) (n m : Nat) (f : Nat → Int32) (rest : va_W) (h2 : n ≤ m) (h3 : m ≤ 64) : mCg (mEm a) (mTb4 cs cB) yJ5_putStringAt_47b60 cJ5_putStringAt_47b60 3 none ⟨2, 0, 0, 140⟩ [.ref b, .int (nI n), .ref a] (mSb b v ml n cB m f rest) (fun v9 ws' => v9 = none ∧ ws' = mSb b v ml n cB m f rest) := by
  refine mCg.of (mEm_s a) (by decide +kernel) (Nat.le_of_ble_eq_true rfl) (fun X hX hg hE => ?_)
  replace hX : mOK X RJ5 cJ5_putStringAt_47b60 3 ⟨2, 0, 0, 140⟩ [] (mTb4 cs cB) := hX
  refine r_aload_n hX dJ5_putStringAt_47b60_0 rfl rfl ?_
  refine r_aload_n hX dJ5_putStringAt_47b60_1 rfl rfl ?_
  refine r_callU hX hg (c_inflateIf cs cB a b v ml n m f rest) ju_J5_397 (as := [.ref a]) 0 rfl (show vwCl[1]? = _ from rfl) rfl rfl (Nat.le_of_ble_eq_true rfl) ⟨(Nat.le_of_ble_eq_true rfl), (Nat.le_of_ble_eq_true rfl)⟩ ⟨(Nat.le_of_ble_eq_true rfl), (Nat.le_of_ble_eq_true rfl)⟩ dJ5_putStringAt_47b60_2 (fun v9 ws9 h8 => ?_)
  obtain ⟨rfl, hw9⟩ := h8
  subst ws9
  dsimp only [mPush]
  refine r_aload_n hX dJ5_putStringAt_47b60_5 rfl rfl ?_
  refine r_aload_n hX dJ5_putStringAt_47b60_6 rfl rfl ?_
  refine r_get hX jf_J5_15 0 rfl rfl dJ5_putStringAt_47b60_7 ?_
  refine r_iload_n hX dJ5_putStringAt_47b60_10 rfl rfl ?_
  refine r_aload_n hX dJ5_putStringAt_47b60_11 rfl rfl ?_
  refine r_get hX jf_J5_22 0 rfl rfl dJ5_putStringAt_47b60_12 ?_
  refine r_callVe hX hg rfl (c_getBytes cs cB a b v ml n m f rest h2 h3) jv_J5_399 (as := [.ref v, .int (nI n), .int 0]) rfl rfl (Nat.le_of_ble_eq_true rfl) ⟨(Nat.le_of_ble_eq_true rfl), (Nat.le_of_ble_eq_true rfl)⟩ ⟨(Nat.le_of_ble_eq_true rfl), (Nat.le_of_ble_eq_true rfl)⟩ dJ5_putStringAt_47b60_15 (fun v9 ws9 h8 => ?_)
  obtain ⟨rfl, hw9⟩ := h8
  subst ws9
  dsimp only [mPush]
  exact r_vret hX hE dJ5_putStringAt_47b60_18 (Nat.le_of_ble_eq_true rfl) (Nat.le_of_ble_eq_true rfl) ⟨rfl, rfl⟩
set_option maxHeartbeats 1000000 in
theorem c_asbAppendS (cs : ClassId × ClassId × ClassId) (cB : ClassId) (a b v : Nat) (ml : Int32) (n m : Nat) (f : Nat → Int32) (rest : va_W) (hf : sb_Fit f) (h2 : n ≤ m) (h3 : m ≤ 64) : mCg (mEm a) (mTb4 cs cB) yJ5_append_cf1ce cJ5_append_cf1ce 3 (some (.object "java/lang/AbstractStringBuilder")) ⟨4, 1, 64, 180⟩ [.ref b, .ref a] (mSb b v ml n cB m f rest) (fun v9 ws' => v9 = some (.ref b) ∧ ∃ (v' : Nat) (f' : Nat → Int32), sb_Fit f' ∧ ws' = mSb b v' ml n cB m f' rest) := by
  refine mCg.of (mEm_s a) (by decide +kernel) (Nat.le_of_ble_eq_true rfl) (fun X hX hg hE => ?_)
  replace hX : mOK X RJ5 cJ5_append_cf1ce 3 ⟨4, 1, 64, 180⟩ [] (mTb4 cs cB) := hX
  refine r_aload_n hX dJ5_append_cf1ce_0 rfl rfl ?_
  refine r_ifnonnull (tgt := 9) hX dJ5_append_cf1ce_1 (by decide) ?_
  refine r_aload_n hX dJ5_append_cf1ce_9 rfl rfl ?_
  refine r_callVe hX hg rfl (c_strLength _ _ a) jv_J5_32 (as := []) rfl rfl (Nat.le_of_ble_eq_true rfl) ⟨(Nat.le_of_ble_eq_true rfl), (Nat.le_of_ble_eq_true rfl)⟩ ⟨(Nat.le_of_ble_eq_true rfl), (Nat.le_of_ble_eq_true rfl)⟩ dJ5_append_cf1ce_10 (fun v9 ws9 h8 => ?_)
  obtain ⟨rfl, hw9⟩ := h8
  subst ws9
  dsimp only [mPush]
  refine r_istore_n hX dJ5_append_cf1ce_13 rfl (by decide) rfl ?_
  refine r_aload_n hX dJ5_append_cf1ce_14 rfl rfl ?_
  refine r_aload_n hX dJ5_append_cf1ce_15 rfl rfl ?_
  refine r_get hX jf_J5_79 0 rfl rfl dJ5_append_cf1ce_16 ?_
  refine r_iload_n hX dJ5_append_cf1ce_19 rfl rfl ?_
  refine r_iadd hX dJ5_append_cf1ce_20 ?_
  rw [show nI n + 0 = nI n from Int32.add_zero _]
  refine r_callU hX mGT_h (c_ensure cs cB b v ml n m n f rest hf (Or.inl h2) h3).ofg ju_J5_100 (as := [.int (nI n)]) 0 rfl (show vwCl[1]? = _ from rfl) rfl rfl (Nat.le_of_ble_eq_true rfl) ⟨(Nat.le_of_ble_eq_true rfl), (Nat.le_of_ble_eq_true rfl)⟩ ⟨(Nat.le_of_ble_eq_true rfl), (Nat.le_of_ble_eq_true rfl)⟩ dJ5_append_cf1ce_21 (fun v9 ws9 h8 => ?_)
  obtain ⟨rfl, v1, f1, hf1, hw9⟩ := h8
  rw [if_pos h2] at hw9
  subst ws9
  dsimp only [mPush]
  refine r_aload_n hX dJ5_append_cf1ce_24 rfl rfl ?_
  refine r_aload_n hX dJ5_append_cf1ce_25 rfl rfl ?_
  refine r_get hX jf_J5_79 0 rfl rfl dJ5_append_cf1ce_26 ?_
  refine r_aload_n hX dJ5_append_cf1ce_29 rfl rfl ?_
  refine r_callU hX hg (c_putStringAt cs cB a b v1 ml n m f1 rest h2 h3) ju_J5_208 (as := [.int (nI n), .ref a]) 0 rfl (show vwCl[1]? = _ from rfl) rfl rfl (Nat.le_of_ble_eq_true rfl) ⟨(Nat.le_of_ble_eq_true rfl), (Nat.le_of_ble_eq_true rfl)⟩ ⟨(Nat.le_of_ble_eq_true rfl), (Nat.le_of_ble_eq_true rfl)⟩ dJ5_append_cf1ce_30 (fun v9 ws9 h8 => ?_)
  obtain ⟨rfl, hw9⟩ := h8
  subst ws9
  dsimp only [mPush]
  refine r_aload_n hX dJ5_append_cf1ce_33 rfl rfl ?_
  refine r_dup hX dJ5_append_cf1ce_34 rfl ?_
  refine r_get hX jf_J5_79 0 rfl rfl dJ5_append_cf1ce_35 ?_
  refine r_iload_n hX dJ5_append_cf1ce_38 rfl rfl ?_
  refine r_iadd hX dJ5_append_cf1ce_39 ?_
  rw [show nI n + 0 = nI n from Int32.add_zero _]
  refine r_put hX jf_J5_79 0 rfl rfl rfl rfl (Nat.le_of_ble_eq_true rfl) dJ5_append_cf1ce_40 ?_
  refine r_aload_n hX dJ5_append_cf1ce_43 rfl rfl ?_
  exact r_aret hX hE dJ5_append_cf1ce_44 (Or.inl ⟨_, rfl⟩) (Or.inr ⟨_, rfl⟩) (Nat.le_of_ble_eq_true rfl) (Nat.le_of_ble_eq_true rfl) ⟨rfl, v1, f1, hf1, rfl⟩
set_option maxHeartbeats 1000000 in
theorem c_sbAppendS (cs : ClassId × ClassId × ClassId) (cB : ClassId) (a b v : Nat) (ml : Int32) (n m : Nat) (f : Nat → Int32) (rest : va_W) (hf : sb_Fit f) (h2 : n ≤ m) (h3 : m ≤ 64) : mCg (mEm a) (mTb4 cs cB) yJ4_append_15ec4 cJ4_append_15ec4 2 (some (.object "java/lang/StringBuilder")) ⟨5, 1, 64, 210⟩ [.ref b, .ref a] (mSb b v ml n cB m f rest) (fun v9 ws' => v9 = some (.ref b) ∧ ∃ (v' : Nat) (f' : Nat → Int32), sb_Fit f' ∧ ws' = mSb b v' ml n cB m f' rest) := by
  refine mCg.of (mEm_s a) (by decide +kernel) (Nat.le_of_ble_eq_true rfl) (fun X hX hg hE => ?_)
  replace hX : mOK X RJ4 cJ4_append_15ec4 2 ⟨5, 1, 64, 210⟩ [] (mTb4 cs cB) := hX
  refine r_aload_n hX dJ4_append_15ec4_0 rfl rfl ?_
  refine r_aload_n hX dJ4_append_15ec4_1 rfl rfl ?_
  refine r_callSU hX hg (c_asbAppendS cs cB a b v ml n m f rest hf h2 h3) jsu_J4_29 (as := [.ref a]) 0 rfl (show vwCl[1]? = _ from rfl) rfl rfl (Nat.le_of_ble_eq_true rfl) ⟨(Nat.le_of_ble_eq_true rfl), (Nat.le_of_ble_eq_true rfl)⟩ ⟨(Nat.le_of_ble_eq_true rfl), (Nat.le_of_ble_eq_true rfl)⟩ dJ4_append_15ec4_2 (fun v9 ws9 h8 => ?_)
  obtain ⟨rfl, v1, f1, hf1, hw9⟩ := h8
  subst ws9
  dsimp only [mPush]
  refine r_pop hX dJ4_append_15ec4_5 rfl ?_
  refine r_aload_n hX dJ4_append_15ec4_6 rfl rfl ?_
  exact r_aret hX hE dJ4_append_15ec4_7 (Or.inl ⟨_, rfl⟩) (Or.inr ⟨_, rfl⟩) (Nat.le_of_ble_eq_true rfl) (Nat.le_of_ble_eq_true rfl) ⟨rfl, v1, f1, hf1, rfl⟩

