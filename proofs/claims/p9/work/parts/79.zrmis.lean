/-! The reference, exact (rows by a program of this repository). -/
theorem c_X4_knock_x (ad ae : Nat → Nat) (cs : ClassId × ClassId × ClassId) (K : mK) (J : mJ) (rest : va_W) : mCt (mTy cs) yX4_knock cX4_knock 1 (some .int) ⟨0, 0, 0, 0⟩ [.ref (ae 0)] (mRw ad ae cs K J rest) (fun v ws' => v = some (.int (J.1.2.1 + 1)) ∧ ws' = mRw ad ae cs K ((0, J.1.2.1 + 1, J.1.2.2), J.2) rest) mNo := by
  refine mCt.of (by decide +kernel) (Nat.le_of_ble_eq_true rfl) (fun X hX hE => ?_)
  have hX : mOK X RX4 cX4_knock 1 ⟨0, 0, 0, 0⟩ [] (mTy cs) := hX
  refine r_aload_n hX dX4_knock_0 rfl rfl ?_
  refine r_iconst (v := 0) hX dX4_knock_1 (by decide) ?_
  refine r_put hX kf_X4_29 14 rfl rfl rfl rfl (Nat.le_of_ble_eq_true rfl) dX4_knock_2 ?_
  refine r_eqw (ws' := mRw ad ae cs K (((0 : Int32), J.1.2), J.2) rest) rfl ?_
  refine r_aload_n hX dX4_knock_5 rfl rfl ?_
  refine r_dup hX dX4_knock_6 rfl ?_
  refine r_get hX kf_X4_219 14 rfl rfl dX4_knock_7 ?_
  refine r_iconst (v := 1) hX dX4_knock_10 (by decide) ?_
  refine r_iadd hX dX4_knock_11 ?_
  refine r_put hX kf_X4_219 14 rfl rfl rfl rfl (Nat.le_of_ble_eq_true rfl) dX4_knock_12 ?_
  refine r_eqw (ws' := mRw ad ae cs K (((((0 : Int32), J.1.2), J.2).1.1, (((0 : Int32), J.1.2), J.2).1.2.1 + 1, (((0 : Int32), J.1.2), J.2).1.2.2), (((0 : Int32), J.1.2), J.2).2) rest) rfl ?_
  refine r_aload_n hX dX4_knock_15 rfl rfl ?_
  refine r_get hX kf_X4_219 14 rfl rfl dX4_knock_16 ?_
  exact r_iret hX hE dX4_knock_19 (Nat.le_of_ble_eq_true rfl) (Nat.le_of_ble_eq_true rfl) ⟨rfl, rfl⟩
theorem c_X4_isSound_x (ad ae : Nat → Nat) (cs : ClassId × ClassId × ClassId) (K : mK) (J : mJ) (rest : va_W) : mCt (mTy cs) yX4_isSound cX4_isSound 1 (some .boolean) ⟨0, 0, 0, 0⟩ [.ref (ae 0)] (mRw ad ae cs K J rest) (fun v ws' => v = some (.int (b2i true)) ∧ ws' = mRw ad ae cs K ((0, J.1.2), J.2) rest) mNo := by
  refine mCt.of (by decide +kernel) (Nat.le_of_ble_eq_true rfl) (fun X hX hE => ?_)
  have hX : mOK X RX4 cX4_isSound 1 ⟨0, 0, 0, 0⟩ [] (mTy cs) := hX
  refine r_aload_n hX dX4_isSound_0 rfl rfl ?_
  refine r_iconst (v := 0) hX dX4_isSound_1 (by decide) ?_
  refine r_put hX kf_X4_29 14 rfl rfl rfl rfl (Nat.le_of_ble_eq_true rfl) dX4_isSound_2 ?_
  refine r_eqw (ws' := mRw ad ae cs K (((0 : Int32), J.1.2), J.2) rest) rfl ?_
  refine r_iconst (v := 1) hX dX4_isSound_5 (by decide) ?_
  exact r_zret hX hE dX4_isSound_6 (mB_n (Or.inr rfl)) (Nat.le_of_ble_eq_true rfl) (Nat.le_of_ble_eq_true rfl) ⟨rfl, rfl⟩
set_option maxHeartbeats 4000000 in
set_option maxRecDepth 20000 in
theorem c_X4_millis_x (ad ae : Nat → Nat) (cs : ClassId × ClassId × ClassId) (K : mK) (J : mJ) (rest : va_W) (p0 : Int32) : mCt (mTy cs) yX4_millis cX4_millis 2 (some (.object "java/lang/String")) ⟨6, 8, 240, 280⟩ [.ref (ae 0), .int p0] (mRw ad ae cs K J rest) (fun v9 ws' => ∃ (s : Nat) (J' : mJ), J'.1.2 = J.1.2 ∧ J'.2 = J.2 ∧ v9 = some (.ref s) ∧ ws' = mRw ad ae cs K J' rest) mNo := by
  refine mCt.of (by decide +kernel) (Nat.le_of_ble_eq_true rfl) (fun X hX hE => ?_)
  replace hX : mOK X RX4 cX4_millis 2 ⟨6, 8, 240, 280⟩ [] (mTy cs) := hX
  refine r_aload_n hX dX4_millis_0 rfl rfl ?_
  refine r_iload_n hX dX4_millis_1 rfl rfl ?_
  refine r_callS hX (c_X4_isNone _ _ _) ks_X4_61 rfl rfl (Nat.le_of_ble_eq_true rfl) ⟨(Nat.le_of_ble_eq_true rfl), (Nat.le_of_ble_eq_true rfl)⟩ ⟨(Nat.le_of_ble_eq_true rfl), (Nat.le_of_ble_eq_true rfl)⟩ dX4_millis_2 (fun _ _ z => False.elim z) (fun v9 ws9 h1 => ?_)
  obtain ⟨r3, nr3, rfl, hw9⟩ := h1
  subst ws9
  dsimp only [mPush]
  refine r_iconst (v := 0) hX dX4_millis_5 (by decide) ?_
  refine r_callV hX (c_X4_isStopped _ _ _ _ _ _ _ _) kv_X4_68 14 rfl rfl rfl rfl (Nat.le_of_ble_eq_true rfl) ⟨(Nat.le_of_ble_eq_true rfl), (Nat.le_of_ble_eq_true rfl)⟩ ⟨(Nat.le_of_ble_eq_true rfl), (Nat.le_of_ble_eq_true rfl)⟩ dX4_millis_6 (fun _ _ z => False.elim z) (fun v9 ws9 h4 => ?_)
  obtain ⟨r6, J7, nr6, etJ7, erJ7, eJ7, rfl, hw9⟩ := h4
  subst ws9
  dsimp only [mPush]
  refine r_if_eq (tgt := 17) hX dX4_millis_9 (by decide) (fun c8 => ?_) (fun c8 => ?_)
  rotate_left
  · refine r_ldcE hX dX4_millis_12 (fun a ha => ?_)
    refine r_goto (tgt := 47) hX dX4_millis_14 (by decide) ?_
    exact r_aret hX hE dX4_millis_47 (Or.inl ⟨_, rfl⟩) (Or.inr ⟨_, rfl⟩) (Nat.le_of_ble_eq_true rfl) (Nat.le_of_ble_eq_true rfl) ⟨a, J7, erJ7, eJ7, rfl, rfl⟩
  have hs9 := mnone0 nr6 c8
  obtain ⟨j, hj, rfl⟩ := mnone0 nr3 hs9.1
  refine r_byte hX hE (fun Y cB hX hE => ?_)
  refine r_new hX kinJ4 tyJ4_ok kl_X4_121 jn_J4 jt_J4 (show vwCl[1]? = _ from rfl) (fs := [.null, .int 0, .int 0, .int 0]) mJ4z (Nat.le_of_ble_eq_true rfl) (Nat.le_of_ble_eq_true rfl) dX4_millis_17 (fun b => ?_)
  refine r_dup hX dX4_millis_20 rfl ?_
  refine r_callI hX (c_sbInit cs cB b _) ji_X4_123 (as := []) rfl rfl (Nat.le_of_ble_eq_true rfl) ⟨(Nat.le_of_ble_eq_true rfl), (Nat.le_of_ble_eq_true rfl)⟩ ⟨(Nat.le_of_ble_eq_true rfl), (Nat.le_of_ble_eq_true rfl)⟩ dX4_millis_21 (fun v9 ws9 h8 => ?_)
  obtain ⟨rfl, v0, f0, hf0, hw9⟩ := h8
  subst ws9
  dsimp only [mPush]
  refine r_ldcE hX dX4_millis_24 (fun a ha => ?_)
  refine r_callVg hX ha (c_sbAppendS cs cB a b v0 0 0 16 f0 _ hf0 (by decide) (by decide)) jv_X4_124 (as := [.ref a]) 0 rfl rfl rfl rfl (Nat.le_of_ble_eq_true rfl) ⟨(Nat.le_of_ble_eq_true rfl), (Nat.le_of_ble_eq_true rfl)⟩ ⟨(Nat.le_of_ble_eq_true rfl), (Nat.le_of_ble_eq_true rfl)⟩ dX4_millis_26 (fun v9 ws9 h8 => ?_)
  obtain ⟨rfl, v1, f1, hf1, hw9⟩ := h8
  subst ws9
  dsimp only [mPush]
  refine r_aload_n hX dX4_millis_29 rfl rfl ?_
  refine r_get hX kf_X4_13 16 rfl rfl dX4_millis_30 ?_
  refine r_iload_n hX dX4_millis_33 rfl rfl ?_
  refine r_lald hX 18 1 rfl rfl (vp_in_nI hj (by decide)) dX4_millis_34 ?_
  refine r_ldc2 hX kc_X4_111 dX4_millis_35 ?_
  refine r_callS hX (c_X4_whole _ _ _ _ (by decide)) ks_X4_92 rfl rfl (Nat.le_of_ble_eq_true rfl) ⟨(Nat.le_of_ble_eq_true rfl), (Nat.le_of_ble_eq_true rfl)⟩ ⟨(Nat.le_of_ble_eq_true rfl), (Nat.le_of_ble_eq_true rfl)⟩ dX4_millis_38 (fun _ _ z => False.elim z) (fun v9 ws9 h8 => ?_)
  obtain ⟨r, rfl, hw9⟩ := h8
  subst ws9
  dsimp only [mPush]
  refine r_callV hX (c_sbAppendJ cs cB b v1 0 0 16 f1 _ r hf1 (by decide) (by decide)) jv_X4_128 0 rfl rfl (as := [.long r]) rfl rfl (Nat.le_of_ble_eq_true rfl) ⟨(Nat.le_of_ble_eq_true rfl), (Nat.le_of_ble_eq_true rfl)⟩ ⟨(Nat.le_of_ble_eq_true rfl), (Nat.le_of_ble_eq_true rfl)⟩ dX4_millis_41 (fun _ _ z => False.elim z) (fun v9 ws9 h8 => ?_)
  obtain ⟨rfl, v2, n2, m2, f2, hf2, k1, k2, hw9⟩ := h8
  subst ws9
  dsimp only [mPush]
  refine r_callV hX (c_toString cs cB b v2 0 n2 m2 f2 _ hf2 k1 k2) jv_X4_131 0 rfl rfl (as := []) rfl rfl (Nat.le_of_ble_eq_true rfl) ⟨(Nat.le_of_ble_eq_true rfl), (Nat.le_of_ble_eq_true rfl)⟩ ⟨(Nat.le_of_ble_eq_true rfl), (Nat.le_of_ble_eq_true rfl)⟩ dX4_millis_44 (fun _ _ z => False.elim z) (fun v9 ws9 h8 => ?_)
  obtain ⟨⟨s, rfl⟩, hw9⟩ := h8
  subst ws9
  dsimp only [mPush]
  exact r_aret hX hE dX4_millis_47 (Or.inl ⟨_, rfl⟩) (Or.inr ⟨_, rfl⟩) (Nat.le_of_ble_eq_true rfl) (Nat.le_of_ble_eq_true rfl) ⟨s, J7, erJ7, eJ7, rfl, rfl⟩
theorem z_X4_knock (ad ae : Nat → Nat) (cs : ClassId × ClassId × ClassId) (K : mK) (S : mS) (th : Int32) (rest : va_W) : mCt (mTy cs) yX4_knock cX4_knock 1 (some .int) ⟨0, 0, 0, 0⟩ [.ref (ae 0)] (mRw ad ae cs K (mJof S th) rest) (fun v ws' => v = some (.int (S.2.2.2.1 + 1)) ∧ ws' = mRw ad ae cs K (mJof (sKn S) 0) rest) mNo := c_X4_knock_x ad ae cs K (mJof S th) rest
theorem z_X4_isSound (ad ae : Nat → Nat) (cs : ClassId × ClassId × ClassId) (K : mK) (S : mS) (th : Int32) (rest : va_W) : mCt (mTy cs) yX4_isSound cX4_isSound 1 (some .boolean) ⟨0, 0, 0, 0⟩ [.ref (ae 0)] (mRw ad ae cs K (mJof S th) rest) (fun v ws' => v = some (.int (b2i true)) ∧ ws' = mRw ad ae cs K (mJof S 0) rest) mNo := c_X4_isSound_x ad ae cs K (mJof S th) rest
theorem z_X4_millis (ad ae : Nat → Nat) (cs : ClassId × ClassId × ClassId) (K : mK) (S : mS) (th : Int32) (rest : va_W) (p0 : Int32) : mCt (mTy cs) yX4_millis cX4_millis 2 (some (.object "java/lang/String")) ⟨6, 8, 240, 280⟩ [.ref (ae 0), .int p0] (mRw ad ae cs K (mJof S th) rest) (fun v ws' => ∃ (s : Nat) (th' : Int32), v = some (.ref s) ∧ ws' = mRw ad ae cs K (mJof S th') rest) mNo := by
  refine (c_X4_millis_x ad ae cs K (mJof S th) rest p0).to (fun v w h => ?_)
  obtain ⟨s, J', h1, h2, hv, hw⟩ := h
  have e : J' = mJof S J'.1.1 := Prod.ext (Prod.ext rfl h1) h2
  exact ⟨s, J'.1.1, hv, by rw [hw, ← e]⟩

