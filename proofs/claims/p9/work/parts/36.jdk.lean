/-! Text methods of the JDK, their contracts. (Rows by a program of this repository.) -/
set_option maxHeartbeats 1000000 in
theorem c_canEncode (tys : List (ClassId × FieldType)) (ws : va_W) (c : Nat) (hc : c < 256) : mCt tys yJ1_canEncode_fc78d cJ1_canEncode_fc78d 1 (some .boolean) ⟨0, 0, 0, 0⟩ [.int (nI c)] ws (fun v ws' => v = some (.int 1) ∧ ws' = ws) mNo := by
  refine mCt.of (by decide +kernel) (Nat.le_of_ble_eq_true rfl) (fun X hX hE => ?_)
  replace hX : mOK X RJ1 cJ1_canEncode_fc78d 1 ⟨0, 0, 0, 0⟩ [] tys := hX
  refine r_iload_n hX dJ1_canEncode_fc78d_0 rfl rfl ?_
  refine r_sipush (v := 255) hX dJ1_canEncode_fc78d_1 (by decide) ?_
  refine r_icmp_gt (tgt := 11) hX dJ1_canEncode_fc78d_4 (by decide) (fun c9 => absurd c9 (show ¬ nI 255 < nI c from nI_nlt (by omega) (by decide))) (fun _ => ?_)
  refine r_iconst (v := 1) hX dJ1_canEncode_fc78d_7 (by decide) ?_
  refine r_goto (tgt := 12) hX dJ1_canEncode_fc78d_8 (by decide) ?_
  exact r_zret hX hE dJ1_canEncode_fc78d_12 (by decide) (Nat.le_of_ble_eq_true rfl) (Nat.le_of_ble_eq_true rfl) ⟨rfl, rfl⟩
set_option maxHeartbeats 1000000 in
theorem c_asbInit (cs : ClassId × ClassId × ClassId) (cB : ClassId) (b : Nat) (rest : va_W) : mCt (mTb4 cs cB) yJ5_init_d00df cJ5_init_d00df 2 none ⟨1, 1, 16, 20⟩ [.ref b, .int (nI 16)] ((b, .inr (1, [.null, .int 0, .int 0, .int 0])) :: rest) (fun v9 ws' => v9 = none ∧ ∃ (v : Nat) (f : Nat → Int32), sb_Fit f ∧ ws' = mSb b v 0 0 cB 16 f rest) mNo := by
  refine mCt.of (by decide +kernel) (Nat.le_of_ble_eq_true rfl) (fun X hX hE => ?_)
  replace hX : mOK X RJ5 cJ5_init_d00df 2 ⟨1, 1, 16, 20⟩ [] (mTb4 cs cB) := hX
  refine r_aload_n hX dJ5_init_d00df_0 rfl rfl ?_
  refine r_objInit hX job_J5 (Nat.le_of_ble_eq_true rfl) (Nat.le_of_ble_eq_true rfl) dJ5_init_d00df_1 ?_
  refine r_compact hX jfl_J5_18 dJ5_init_d00df_4 ?_
  refine r_if_eq (tgt := 25) hX dJ5_init_d00df_7 (by decide) (fun c9 => absurd c9 (by decide)) (fun _ => ?_)
  refine r_aload_n hX dJ5_init_d00df_10 rfl rfl ?_
  refine r_iload_n hX dJ5_init_d00df_11 rfl rfl ?_
  refine r_newB (N := 16) hX 3 rfl (by decide) dJ5_init_d00df_12 (Nat.le_of_ble_eq_true rfl) (Nat.le_of_ble_eq_true rfl) (fun r => ?_)
  refine r_put hX jf_J5_15 1 rfl rfl rfl rfl (Nat.le_of_ble_eq_true rfl) dJ5_init_d00df_14 ?_
  refine r_aload_n hX dJ5_init_d00df_17 rfl rfl ?_
  refine r_iconst (v := 0) hX dJ5_init_d00df_18 (by decide) ?_
  refine r_put hX jf_J5_22 1 rfl rfl rfl rfl (Nat.le_of_ble_eq_true rfl) dJ5_init_d00df_19 ?_
  refine r_goto (tgt := 38) hX dJ5_init_d00df_22 (by decide) ?_
  refine r_part (B := [(r, .inl (cB, 16, .inl (fun _ => 0))), (b, .inr (1, [.ref r, .int 0, .int 0, .int 0]))]) (C := mSb b r 0 0 cB 16 (fun _ => 0) []) (pl := rest) [1, 0] rfl rfl ?_
  exact r_vret hX hE dJ5_init_d00df_38 (Nat.le_of_ble_eq_true rfl) (Nat.le_of_ble_eq_true rfl) ⟨rfl, r, _, sb_fit0, rfl⟩
set_option maxHeartbeats 1000000 in
theorem c_sbInit (cs : ClassId × ClassId × ClassId) (cB : ClassId) (b : Nat) (rest : va_W) : mCt (mTb4 cs cB) yJ4_init_da8c8 cJ4_init_da8c8 1 none ⟨2, 1, 16, 50⟩ [.ref b] ((b, .inr (1, [.null, .int 0, .int 0, .int 0])) :: rest) (fun v9 ws' => v9 = none ∧ ∃ (v : Nat) (f : Nat → Int32), sb_Fit f ∧ ws' = mSb b v 0 0 cB 16 f rest) mNo := by
  refine mCt.of (by decide +kernel) (Nat.le_of_ble_eq_true rfl) (fun X hX hE => ?_)
  replace hX : mOK X RJ4 cJ4_init_da8c8 1 ⟨2, 1, 16, 50⟩ [] (mTb4 cs cB) := hX
  refine r_aload_n hX dJ4_init_da8c8_0 rfl rfl ?_
  refine r_bipush (v := nI 16) hX dJ4_init_da8c8_1 (by decide) ?_
  refine r_callI hX (c_asbInit cs cB b rest) ji_J4_1 rfl rfl (Nat.le_of_ble_eq_true rfl) ⟨(Nat.le_of_ble_eq_true rfl), (Nat.le_of_ble_eq_true rfl)⟩ ⟨(Nat.le_of_ble_eq_true rfl), (Nat.le_of_ble_eq_true rfl)⟩ dJ4_init_da8c8_3 (fun v9 ws9 h9 => ?_)
  obtain ⟨rfl, v, f, hf, hw9⟩ := h9
  subst ws9
  dsimp only [mPush]
  exact r_vret hX hE dJ4_init_da8c8_6 (Nat.le_of_ble_eq_true rfl) (Nat.le_of_ble_eq_true rfl) ⟨rfl, v, f, hf, rfl⟩
set_option maxHeartbeats 1000000 in
theorem c_asbAppendC (cs : ClassId × ClassId × ClassId) (cB : ClassId) (b v : Nat) (ml : Int32) (n m c : Nat) (f : Nat → Int32) (rest : va_W) (hf : sb_Fit f) (hq : n + 1 ≤ m ∨ (n ≤ m ∧ m ≤ 31)) (hm : m ≤ 64) (hc : c < 256) : mCt (mTb4 cs cB) yJ5_append_3fe6f cJ5_append_3fe6f 2 (some (.object "java/lang/AbstractStringBuilder")) ⟨4, 1, 64, 170⟩ [.ref b, .int (nI c)] (mSb b v ml n cB m f rest) (fun v9 ws' => v9 = some (.ref b) ∧ ∃ (v' : Nat) (f' : Nat → Int32), sb_Fit f' ∧ ws' = mSb b v' ml (n + 1) cB (if n + 1 ≤ m then m else 2 * m + 2) f' rest) mNo := by
  refine mCt.of (by decide +kernel) (Nat.le_of_ble_eq_true rfl) (fun X hX hE => ?_)
  replace hX : mOK X RJ5 cJ5_append_3fe6f 2 ⟨4, 1, 64, 170⟩ [] (mTb4 cs cB) := hX
  refine r_aload_n hX dJ5_append_3fe6f_0 rfl rfl ?_
  refine r_aload_n hX dJ5_append_3fe6f_1 rfl rfl ?_
  refine r_get hX jf_J5_79 0 rfl rfl dJ5_append_3fe6f_2 ?_
  refine r_iconst (v := 1) hX dJ5_append_3fe6f_5 (by decide) ?_
  refine r_iadd hX dJ5_append_3fe6f_6 ?_
  rw [nI_1]
  refine r_callU hX mGT_h (c_ensure cs cB b v ml n m (n + 1) f rest hf (by omega) hm).ofg ju_J5_100 0 rfl (show vwCl[1]? = _ from rfl) rfl rfl (Nat.le_of_ble_eq_true rfl) ⟨(Nat.le_of_ble_eq_true rfl), (Nat.le_of_ble_eq_true rfl)⟩ ⟨(Nat.le_of_ble_eq_true rfl), (Nat.le_of_ble_eq_true rfl)⟩ dJ5_append_3fe6f_7 (fun v9 ws9 h8 => ?_)
  obtain ⟨rfl, v1, f1, hf1, hw9⟩ := h8
  subst ws9
  dsimp only [mPush]
  have hm1 : n + 1 ≤ (if n + 1 ≤ m then m else 2 * m + 2) := by split <;> omega
  generalize em : (if n + 1 ≤ m then m else 2 * m + 2) = m1 at hm1 ⊢
  refine r_aload_n hX dJ5_append_3fe6f_10 rfl rfl ?_
  refine r_callU hX mGT_h (c_isLatin1 _ _ 0 b _ _ _ rfl).ofg ju_J5_83 0 rfl (show vwCl[1]? = _ from rfl) rfl rfl (Nat.le_of_ble_eq_true rfl) ⟨(Nat.le_of_ble_eq_true rfl), (Nat.le_of_ble_eq_true rfl)⟩ ⟨(Nat.le_of_ble_eq_true rfl), (Nat.le_of_ble_eq_true rfl)⟩ dJ5_append_3fe6f_11 (fun v9 ws9 h8 => ?_)
  obtain ⟨rfl, hw9⟩ := h8
  subst ws9
  dsimp only [mPush]
  refine r_if_eq (tgt := 45) hX dJ5_append_3fe6f_14 (by decide) (fun c9 => absurd c9 (by decide)) (fun _ => ?_)
  refine r_iload_n hX dJ5_append_3fe6f_17 rfl rfl ?_
  refine r_callS hX (c_canEncode _ _ c hc) js_J5_191 rfl rfl (Nat.le_of_ble_eq_true rfl) ⟨(Nat.le_of_ble_eq_true rfl), (Nat.le_of_ble_eq_true rfl)⟩ ⟨(Nat.le_of_ble_eq_true rfl), (Nat.le_of_ble_eq_true rfl)⟩ dJ5_append_3fe6f_18 (fun _ _ z => False.elim z) (fun v9 ws9 h9 => ?_)
  obtain ⟨rfl, hw9⟩ := h9
  subst ws9
  dsimp only [mPush]
  refine r_if_eq (tgt := 45) hX dJ5_append_3fe6f_21 (by decide) (fun c9 => absurd c9 (by decide)) (fun _ => ?_)
  refine r_aload_n hX dJ5_append_3fe6f_24 rfl rfl ?_
  refine r_get hX jf_J5_15 0 rfl rfl dJ5_append_3fe6f_25 ?_
  refine r_aload_n hX dJ5_append_3fe6f_28 rfl rfl ?_
  refine r_dup hX dJ5_append_3fe6f_29 rfl ?_
  refine r_get hX jf_J5_79 0 rfl rfl dJ5_append_3fe6f_30 ?_
  refine r_dupx1 hX dJ5_append_3fe6f_33 rfl rfl ?_
  refine r_iconst (v := 1) hX dJ5_append_3fe6f_34 (by decide) ?_
  refine r_iadd hX dJ5_append_3fe6f_35 ?_
  rw [nI_1]
  refine r_put hX jf_J5_79 0 rfl rfl rfl rfl (Nat.le_of_ble_eq_true rfl) dJ5_append_3fe6f_36 ?_
  refine r_iload_n hX dJ5_append_3fe6f_39 rfl rfl ?_
  refine r_i2b hX dJ5_append_3fe6f_40 ?_
  refine r_bast hX 1 3 rfl rfl (vp_in_nI (n := n) (N := m1) (by omega) (by split at em <;> omega)) dJ5_append_3fe6f_41 ?_
  refine r_goto (tgt := 75) hX dJ5_append_3fe6f_42 (by decide) ?_
  refine r_aload_n hX dJ5_append_3fe6f_75 rfl rfl ?_
  exact r_aret hX hE dJ5_append_3fe6f_76 (Or.inl ⟨_, rfl⟩) (Or.inr ⟨_, rfl⟩) (Nat.le_of_ble_eq_true rfl) (Nat.le_of_ble_eq_true rfl) ⟨rfl, v1, _, sb_fitU hf1 (pk_fb _), by rw [em]; rfl⟩
set_option maxHeartbeats 1000000 in
theorem c_sbAppendC (cs : ClassId × ClassId × ClassId) (cB : ClassId) (b v : Nat) (ml : Int32) (n m c : Nat) (f : Nat → Int32) (rest : va_W) (hf : sb_Fit f) (hq : n + 1 ≤ m ∨ (n ≤ m ∧ m ≤ 31)) (hm : m ≤ 64) (hc : c < 256) : mCt (mTb4 cs cB) yJ4_append_cf468 cJ4_append_cf468 2 (some (.object "java/lang/StringBuilder")) ⟨5, 1, 64, 200⟩ [.ref b, .int (nI c)] (mSb b v ml n cB m f rest) (fun v9 ws' => v9 = some (.ref b) ∧ ∃ (v' : Nat) (f' : Nat → Int32), sb_Fit f' ∧ ws' = mSb b v' ml (n + 1) cB (if n + 1 ≤ m then m else 2 * m + 2) f' rest) mNo := by
  refine mCt.of (by decide +kernel) (Nat.le_of_ble_eq_true rfl) (fun X hX hE => ?_)
  replace hX : mOK X RJ4 cJ4_append_cf468 2 ⟨5, 1, 64, 200⟩ [] (mTb4 cs cB) := hX
  refine r_aload_n hX dJ4_append_cf468_0 rfl rfl ?_
  refine r_iload_n hX dJ4_append_cf468_1 rfl rfl ?_
  refine r_callSU hX mGT_h (c_asbAppendC cs cB b v ml n m c f rest hf hq hm hc).ofg jsu_J4_50 0 rfl (show vwCl[1]? = _ from rfl) rfl rfl (Nat.le_of_ble_eq_true rfl) ⟨(Nat.le_of_ble_eq_true rfl), (Nat.le_of_ble_eq_true rfl)⟩ ⟨(Nat.le_of_ble_eq_true rfl), (Nat.le_of_ble_eq_true rfl)⟩ dJ4_append_cf468_2 (fun v9 ws9 h8 => ?_)
  obtain ⟨rfl, v1, f1, hf1, hw9⟩ := h8
  subst ws9
  dsimp only [mPush]
  refine r_pop hX dJ4_append_cf468_5 rfl ?_
  refine r_aload_n hX dJ4_append_cf468_6 rfl rfl ?_
  exact r_aret hX hE dJ4_append_cf468_7 (Or.inl ⟨_, rfl⟩) (Or.inr ⟨_, rfl⟩) (Nat.le_of_ble_eq_true rfl) (Nat.le_of_ble_eq_true rfl) ⟨rfl, v1, f1, hf1, rfl⟩
set_option maxHeartbeats 1000000 in
theorem c_getValue (tys : List (ClassId × FieldType)) (ws : va_W) (q b v : Nat) (x1 x2 x3 : Value) (he : ws[q]? = some (b, .inr (1, [.ref v, x1, x2, x3]))) : mCt tys yJ5_getValue_6d5f1 cJ5_getValue_6d5f1 1 (some (.array .byte)) ⟨0, 0, 0, 0⟩ [.ref b] ws (fun v9 ws' => v9 = some (.ref v) ∧ ws' = ws) mNo := by
  refine mCt.of (by decide +kernel) (Nat.le_of_ble_eq_true rfl) (fun X hX hE => ?_)
  replace hX : mOK X RJ5 cJ5_getValue_6d5f1 1 ⟨0, 0, 0, 0⟩ [] tys := hX
  refine r_aload_n hX dJ5_getValue_6d5f1_0 rfl rfl ?_
  refine r_get hX jf_J5_15 q he rfl dJ5_getValue_6d5f1_1 ?_
  exact r_aret hX hE dJ5_getValue_6d5f1_4 (Or.inr ⟨_, rfl⟩) (Or.inr ⟨_, rfl⟩) (Nat.le_of_ble_eq_true rfl) (Nat.le_of_ble_eq_true rfl) ⟨rfl, rfl⟩
set_option maxHeartbeats 1000000 in
theorem c_asbLength (tys : List (ClassId × FieldType)) (ws : va_W) (q b : Nat) (z : Int32) (x0 x1 x2 : Value) (he : ws[q]? = some (b, .inr (1, [x0, x1, x2, .int z]))) : mCt tys yJ5_length_8abf5 cJ5_length_8abf5 1 (some .int) ⟨0, 0, 0, 0⟩ [.ref b] ws (fun v9 ws' => v9 = some (.int z) ∧ ws' = ws) mNo := by
  refine mCt.of (by decide +kernel) (Nat.le_of_ble_eq_true rfl) (fun X hX hE => ?_)
  replace hX : mOK X RJ5 cJ5_length_8abf5 1 ⟨0, 0, 0, 0⟩ [] tys := hX
  refine r_aload_n hX dJ5_length_8abf5_0 rfl rfl ?_
  refine r_get hX jf_J5_79 q he rfl dJ5_length_8abf5_1 ?_
  exact r_iret hX hE dJ5_length_8abf5_4 (Nat.le_of_ble_eq_true rfl) (Nat.le_of_ble_eq_true rfl) ⟨rfl, rfl⟩
set_option maxHeartbeats 1000000 in
theorem c_sbLength (tys : List (ClassId × FieldType)) (ws : va_W) (q b : Nat) (z : Int32) (x0 x1 x2 : Value) (he : ws[q]? = some (b, .inr (1, [x0, x1, x2, .int z]))) : mCt tys yJ4_length_8abf5 cJ4_length_8abf5 1 (some .int) ⟨1, 0, 0, 20⟩ [.ref b] ws (fun v9 ws' => v9 = some (.int z) ∧ ws' = ws) mNo := by
  refine mCt.of (by decide +kernel) (Nat.le_of_ble_eq_true rfl) (fun X hX hE => ?_)
  replace hX : mOK X RJ4 cJ4_length_8abf5 1 ⟨1, 0, 0, 20⟩ [] tys := hX
  refine r_aload_n hX dJ4_length_8abf5_0 rfl rfl ?_
  refine r_callSU hX mGT_h (c_asbLength _ _ q b z _ _ _ he).ofg jsu_J4_343 q he (show vwCl[1]? = _ from rfl) rfl rfl (Nat.le_of_ble_eq_true rfl) ⟨(Nat.le_of_ble_eq_true rfl), (Nat.le_of_ble_eq_true rfl)⟩ ⟨(Nat.le_of_ble_eq_true rfl), (Nat.le_of_ble_eq_true rfl)⟩ dJ4_length_8abf5_1 (fun v9 ws9 h8 => ?_)
  obtain ⟨rfl, hw9⟩ := h8
  subst ws9
  dsimp only [mPush]
  exact r_iret hX hE dJ4_length_8abf5_4 (Nat.le_of_ble_eq_true rfl) (Nat.le_of_ble_eq_true rfl) ⟨rfl, rfl⟩
set_option maxHeartbeats 1000000 in
theorem c_checkLength (tys : List (ClassId × FieldType)) (ws : va_W) (n : Nat) (hn : n < 1000) : mCt tys yJ7_checkLength_df160 cJ7_checkLength_df160 2 none ⟨0, 0, 0, 0⟩ [.int 0, .int (nI n)] ws (fun v9 ws' => v9 = none ∧ ws' = ws) mNo := by
  refine mCt.of (by decide +kernel) (Nat.le_of_ble_eq_true rfl) (fun X hX hE => ?_)
  replace hX : mOK X RJ7 cJ7_checkLength_df160 2 ⟨0, 0, 0, 0⟩ [] tys := hX
  refine r_iload_n hX dJ7_checkLength_df160_0 rfl rfl ?_
  refine r_iload_n hX dJ7_checkLength_df160_1 rfl rfl ?_
  refine r_icmp_ge (tgt := 37) hX dJ7_checkLength_df160_2 (by decide) (fun _ => ?_) (fun c9 => absurd (nI_pos' (n := n) (by omega)) c9)
  exact r_vret hX hE dJ7_checkLength_df160_37 (Nat.le_of_ble_eq_true rfl) (Nat.le_of_ble_eq_true rfl) ⟨rfl, rfl⟩
theorem mmin2 {a b : Nat} (h : a ≤ b) (hb : b < 2 ^ 30) : (if nI a < nI b then nI a else nI b) = nI a := by
  by_cases e : a < b
  · exact if_pos (nI_lt e (by omega))
  · have e2 : a = b := by omega
    subst e2
    exact if_neg (nI_nlt (Nat.le_refl a) (by omega))
set_option maxHeartbeats 1000000 in
theorem c_copyOfRangeByte (cs : ClassId × ClassId × ClassId) (cB : ClassId) (ws : va_W) (q0 v m L : Nat) (f : Nat → Int32) (he : ws[q0]? = some (v, .inl (cB, m, .inl f))) (hf : sb_Fit f) (h1 : L ≤ m) (h2 : m ≤ 64) : mCt (mTb4 cs cB) yJ7_copyOfRangeByte_39247 cJ7_copyOfRangeByte_39247 5 (some (.array .byte)) ⟨1, 1, 64, 110⟩ [.ref v, .int 0, .int (nI L)] ws (fun v9 ws' => ∃ (r : Nat) (g : Nat → Int32), sb_Fit g ∧ v9 = some (.ref r) ∧ ws' = (r, .inl (cB, L, .inl g)) :: ws) mNo := by
  refine mCt.of (by decide +kernel) (Nat.le_of_ble_eq_true rfl) (fun X hX hE => ?_)
  replace hX : mOK X RJ7 cJ7_copyOfRangeByte_39247 5 ⟨1, 1, 64, 110⟩ [] (mTb4 cs cB) := hX
  refine r_iload_n hX dJ7_copyOfRangeByte_39247_0 rfl rfl ?_
  refine r_iload_n hX dJ7_copyOfRangeByte_39247_1 rfl rfl ?_
  refine r_callS hX (c_checkLength _ _ L (by omega)) js_J7_343 rfl rfl (Nat.le_of_ble_eq_true rfl) ⟨(Nat.le_of_ble_eq_true rfl), (Nat.le_of_ble_eq_true rfl)⟩ ⟨(Nat.le_of_ble_eq_true rfl), (Nat.le_of_ble_eq_true rfl)⟩ dJ7_copyOfRangeByte_39247_2 (fun _ _ z => False.elim z) (fun v9 ws9 h9 => ?_)
  obtain ⟨rfl, hw9⟩ := h9
  subst ws9
  dsimp only [mPush]
  refine r_iload_n hX dJ7_copyOfRangeByte_39247_5 rfl rfl ?_
  refine r_iload_n hX dJ7_copyOfRangeByte_39247_6 rfl rfl ?_
  refine r_isub hX dJ7_copyOfRangeByte_39247_7 ?_
  rw [show nI L - 0 = nI L from Int32.sub_zero _]
  refine r_istore_n hX dJ7_copyOfRangeByte_39247_8 rfl (by decide) rfl ?_
  refine r_iload_n hX dJ7_copyOfRangeByte_39247_9 rfl rfl ?_
  refine r_newB hX 3 rfl (by omega) dJ7_copyOfRangeByte_39247_10 (Nat.le_of_ble_eq_true rfl) (show 0 + L ≤ 64 by omega) (fun r => ?_)
  refine r_astore hX dJ7_copyOfRangeByte_39247_12 (by decide) rfl ?_
  refine r_aload_n hX dJ7_copyOfRangeByte_39247_14 rfl rfl ?_
  refine r_iload_n hX dJ7_copyOfRangeByte_39247_15 rfl rfl ?_
  refine r_aload hX dJ7_copyOfRangeByte_39247_16 rfl ?_
  refine r_iconst (v := 0) hX dJ7_copyOfRangeByte_39247_18 (by decide) ?_
  refine r_aload_n hX dJ7_copyOfRangeByte_39247_19 rfl rfl ?_
  refine r_alen (v := nI m) hX (q0 + 1) 3 he rfl rfl dJ7_copyOfRangeByte_39247_20 ?_
  refine r_iload_n hX dJ7_copyOfRangeByte_39247_21 rfl rfl ?_
  refine r_isub hX dJ7_copyOfRangeByte_39247_22 ?_
  rw [show nI m - 0 = nI m from Int32.sub_zero _]
  refine r_iload_n hX dJ7_copyOfRangeByte_39247_23 rfl rfl ?_
  refine r_mmin hX jl_J7_304 (Nat.le_of_ble_eq_true rfl) (Nat.le_of_ble_eq_true rfl) (Nat.le_of_ble_eq_true rfl) (show 0 + L ≤ 64 by omega) dJ7_copyOfRangeByte_39247_24 ?_
  rw [show (if nI L < nI m then nI L else nI m) = nI L from mmin2 h1 (by omega)]
  refine r_copyb hX jl_J7_150 (q0 + 1) 0 3 3 he rfl rfl rfl (by decide) (by decide) (nI_pos (by omega)) (by rw [nI_clamp (by omega)]; show 0 + L ≤ m; omega) (by rw [nI_clamp (by omega)]; show 0 + L ≤ L; omega) hf (Nat.le_of_ble_eq_true rfl) (Nat.le_of_ble_eq_true rfl) dJ7_copyOfRangeByte_39247_27 ?_
  refine r_aload hX dJ7_copyOfRangeByte_39247_30 rfl ?_
  exact r_aret hX hE dJ7_copyOfRangeByte_39247_32 (Or.inr ⟨_, rfl⟩) (Or.inr ⟨_, rfl⟩) (Nat.le_of_ble_eq_true rfl) (show 0 + L ≤ 64 by omega) ⟨r, _, sb_fitC hf sb_fit0, rfl, rfl⟩
set_option maxHeartbeats 1000000 in
theorem c_copyOfRange (cs : ClassId × ClassId × ClassId) (cB : ClassId) (ws : va_W) (q0 v m L : Nat) (f : Nat → Int32) (he : ws[q0]? = some (v, .inl (cB, m, .inl f))) (hf : sb_Fit f) (h1 : L ≤ m) (h2 : m ≤ 64) : mCt (mTb4 cs cB) yJ7_copyOfRange_39247 cJ7_copyOfRange_39247 3 (some (.array .byte)) ⟨2, 1, 64, 140⟩ [.ref v, .int 0, .int (nI L)] ws (fun v9 ws' => ∃ (r : Nat) (g : Nat → Int32), sb_Fit g ∧ v9 = some (.ref r) ∧ ws' = (r, .inl (cB, L, .inl g)) :: ws) mNo := by
  refine mCt.of (by decide +kernel) (Nat.le_of_ble_eq_true rfl) (fun X hX hE => ?_)
  replace hX : mOK X RJ7 cJ7_copyOfRange_39247 3 ⟨2, 1, 64, 140⟩ [] (mTb4 cs cB) := hX
  refine r_iload_n hX dJ7_copyOfRange_39247_0 rfl rfl ?_
  refine r_if_ne (tgt := 10) hX dJ7_copyOfRange_39247_1 (by decide) (fun c9 => absurd rfl c9) (fun _ => ?_)
  refine r_iload_n hX dJ7_copyOfRange_39247_4 rfl rfl ?_
  refine r_aload_n hX dJ7_copyOfRange_39247_5 rfl rfl ?_
  refine r_alen (v := nI m) hX q0 3 he rfl rfl dJ7_copyOfRange_39247_6 ?_
  refine r_icmp_eq (tgt := 17) hX dJ7_copyOfRange_39247_7 (by decide) (fun c9 => ?_) (fun c9 => ?_)
  · have e9 : L = m := (nI_eq (by omega) (by omega)).mp c9
    subst e9
    refine r_aload_n hX dJ7_copyOfRange_39247_17 rfl rfl ?_
    refine r_clone hX jl_J7_310 q0 3 he rfl hf (Nat.le_of_ble_eq_true rfl) (Nat.le_of_ble_eq_true rfl) (Nat.le_of_ble_eq_true rfl) (show 0 + L ≤ 64 by omega) dJ7_copyOfRange_39247_18 (fun r => ?_)
    refine r_castB hX jk_J7_311 0 3 rfl rfl dJ7_copyOfRange_39247_21 ?_
    exact r_aret hX hE dJ7_copyOfRange_39247_24 (Or.inr ⟨_, rfl⟩) (Or.inr ⟨_, rfl⟩) (Nat.le_of_ble_eq_true rfl) (show 0 + L ≤ 64 by omega) ⟨r, f, hf, rfl, rfl⟩
  refine r_aload_n hX dJ7_copyOfRange_39247_10 rfl rfl ?_
  refine r_iload_n hX dJ7_copyOfRange_39247_11 rfl rfl ?_
  refine r_iload_n hX dJ7_copyOfRange_39247_12 rfl rfl ?_
  refine r_callS hX (c_copyOfRangeByte cs cB ws q0 v m L f he hf h1 h2) js_J7_339 rfl rfl (Nat.le_of_ble_eq_true rfl) ⟨(Nat.le_of_ble_eq_true rfl), (Nat.le_of_ble_eq_true rfl)⟩ ⟨(Nat.le_of_ble_eq_true rfl), (Nat.le_of_ble_eq_true rfl)⟩ dJ7_copyOfRange_39247_13 (fun _ _ z => False.elim z) (fun v9 ws9 h8 => ?_)
  obtain ⟨r, g, hg9, rfl, hw9⟩ := h8
  subst ws9
  dsimp only [mPush]
  exact r_aret hX hE dJ7_copyOfRange_39247_16 (Or.inr ⟨_, rfl⟩) (Or.inr ⟨_, rfl⟩) (Nat.le_of_ble_eq_true rfl) (Nat.le_of_ble_eq_true rfl) ⟨r, g, hg9, rfl, rfl⟩

