/-! Text methods of the JDK, their contracts. (Rows by a program of this repository.) -/
/-- a StringBuilder of Latin-1 letters: the object and its bytes, in front of a world -/
def mSb (b v : Nat) (ml : Int32) (n : Nat) (cB : ClassId) (m : Nat) (f : Nat → Int32) (rest : va_W) : va_W := (b, .inr (1, [.ref v, .int 0, .int ml, .int (nI n)])) :: (v, .inl (cB, m, .inl f)) :: rest
set_option maxHeartbeats 1000000 in
theorem c_isLatin1 (tys : List (ClassId × FieldType)) (ws : va_W) (q b : Nat) (x0 x2 x3 : Value) (he : ws[q]? = some (b, .inr (1, [x0, .int 0, x2, x3]))) : mCt tys yJ5_isLatin1_aae02 cJ5_isLatin1_aae02 1 (some .boolean) ⟨0, 0, 0, 0⟩ [.ref b] ws (fun v ws' => v = some (.int 1) ∧ ws' = ws) mNo := by
  refine mCt.of (by decide +kernel) (Nat.le_of_ble_eq_true rfl) (fun X hX hE => ?_)
  replace hX : mOK X RJ5 cJ5_isLatin1_aae02 1 ⟨0, 0, 0, 0⟩ [] tys := hX
  refine r_compact hX jfl_J5_18 dJ5_isLatin1_aae02_0 ?_
  refine r_if_eq (tgt := 17) hX dJ5_isLatin1_aae02_3 (by decide) (fun c9 => absurd c9 (by decide)) (fun _ => ?_)
  refine r_aload_n hX dJ5_isLatin1_aae02_6 rfl rfl ?_
  refine r_get hX jf_J5_22 q he rfl dJ5_isLatin1_aae02_7 ?_
  refine r_if_ne (tgt := 17) hX dJ5_isLatin1_aae02_10 (by decide) (fun c9 => absurd rfl c9) (fun _ => ?_)
  refine r_iconst (v := 1) hX dJ5_isLatin1_aae02_13 (by decide) ?_
  refine r_goto (tgt := 18) hX dJ5_isLatin1_aae02_14 (by decide) ?_
  exact r_zret hX hE dJ5_isLatin1_aae02_18 (by decide) (Nat.le_of_ble_eq_true rfl) (Nat.le_of_ble_eq_true rfl) ⟨rfl, rfl⟩
theorem mmaxN {a b : Nat} (h : a ≤ b) (hb : b < 2 ^ 30) : (if nI a < nI b then nI b else nI a) = nI b := by
  by_cases e : a < b
  · exact if_pos (nI_lt e (by omega))
  · have e2 : a = b := by omega
    subst e2
    exact if_neg (nI_nlt (Nat.le_refl a) (by omega))
theorem mminN {a b : Nat} (h : a ≤ b) (hb : b < 2 ^ 30) : (if nI b < nI a then nI b else nI a) = nI a := if_neg (nI_nlt h (by omega))
set_option maxHeartbeats 1000000 in
theorem c_newLength (tys : List (ClassId × FieldType)) (ws : va_W) (m a b : Nat) (hab : a ≤ b) (hb : 1 ≤ b) (hm : m + b < 100000) : mCt tys yJ8_newLength_cabcc cJ8_newLength_cabcc 4 (some .int) ⟨1, 0, 0, 20⟩ [.int (nI m), .int (nI a), .int (nI b)] ws (fun v ws' => v = some (.int (nI (m + b))) ∧ ws' = ws) mNo := by
  refine mCt.of (by decide +kernel) (Nat.le_of_ble_eq_true rfl) (fun X hX hE => ?_)
  replace hX : mOK X RJ8 cJ8_newLength_cabcc 4 ⟨1, 0, 0, 20⟩ [] tys := hX
  refine r_iload_n hX dJ8_newLength_cabcc_0 rfl rfl ?_
  refine r_iload_n hX dJ8_newLength_cabcc_1 rfl rfl ?_
  refine r_iload_n hX dJ8_newLength_cabcc_2 rfl rfl ?_
  refine r_mmax hX jl_J8_194 (Nat.le_of_ble_eq_true rfl) (Nat.le_of_ble_eq_true rfl) (Nat.le_of_ble_eq_true rfl) (Nat.le_of_ble_eq_true rfl) dJ8_newLength_cabcc_3 ?_
  rw [mmaxN hab (by omega)]
  refine r_iadd hX dJ8_newLength_cabcc_6 ?_
  rw [nI_add]
  refine r_istore_n hX dJ8_newLength_cabcc_7 rfl (by decide) rfl ?_
  refine r_iconst (v := 0) hX dJ8_newLength_cabcc_8 (by decide) ?_
  refine r_iload_n hX dJ8_newLength_cabcc_9 rfl rfl ?_
  refine r_icmp_ge (tgt := 21) hX dJ8_newLength_cabcc_10 (by decide) (fun c9 => absurd c9 (nI_nle (by omega) (by omega))) (fun _ => ?_)
  refine r_iload_n hX dJ8_newLength_cabcc_13 rfl rfl ?_
  refine r_ldc hX jc_J8_200 dJ8_newLength_cabcc_14 ?_
  refine r_icmp_gt (tgt := 21) hX dJ8_newLength_cabcc_16 (by decide) (fun c9 => absurd c9 (show ¬ nI 2147483639 < nI (m + b) from nI_nlt (by omega) (by decide))) (fun _ => ?_)
  refine r_iload_n hX dJ8_newLength_cabcc_19 rfl rfl ?_
  exact r_iret hX hE dJ8_newLength_cabcc_20 (Nat.le_of_ble_eq_true rfl) (Nat.le_of_ble_eq_true rfl) ⟨rfl, rfl⟩
set_option maxHeartbeats 1000000 in
theorem c_newCapacity (cs : ClassId × ClassId × ClassId) (cB : ClassId) (b v : Nat) (ml : Int32) (n m q : Nat) (f : Nat → Int32) (rest : va_W) (h1 : m < q) (h2 : q ≤ 2 * m + 2) (h3 : m ≤ 31) : mCt (mTb4 cs cB) yJ5_newCapacity_0f7a4 cJ5_newCapacity_0f7a4 6 (some .int) ⟨2, 0, 0, 50⟩ [.ref b, .int (nI q)] (mSb b v ml n cB m f rest) (fun v9 ws' => v9 = some (.int (nI (2 * m + 2))) ∧ ws' = mSb b v ml n cB m f rest) mNo := by
  refine mCt.of (by decide +kernel) (Nat.le_of_ble_eq_true rfl) (fun X hX hE => ?_)
  replace hX : mOK X RJ5 cJ5_newCapacity_0f7a4 6 ⟨2, 0, 0, 50⟩ [] (mTb4 cs cB) := hX
  refine r_aload_n hX dJ5_newCapacity_0f7a4_0 rfl rfl ?_
  refine r_get hX jf_J5_15 0 rfl rfl dJ5_newCapacity_0f7a4_1 ?_
  refine r_alen (v := nI m) hX 1 3 rfl rfl rfl dJ5_newCapacity_0f7a4_4 ?_
  refine r_istore_n hX dJ5_newCapacity_0f7a4_5 rfl (by decide) rfl ?_
  refine r_iload_n hX dJ5_newCapacity_0f7a4_6 rfl rfl ?_
  refine r_aload_n hX dJ5_newCapacity_0f7a4_7 rfl rfl ?_
  refine r_get hX jf_J5_22 0 rfl rfl dJ5_newCapacity_0f7a4_8 ?_
  refine r_ishl hX dJ5_newCapacity_0f7a4_11 ?_
  refine r_istore_n hX dJ5_newCapacity_0f7a4_12 rfl (by decide) rfl ?_
  refine r_iload_n hX dJ5_newCapacity_0f7a4_13 rfl rfl ?_
  refine r_iload_n hX dJ5_newCapacity_0f7a4_14 rfl rfl ?_
  refine r_isub hX dJ5_newCapacity_0f7a4_15 ?_
  rw [pk_sub (show m ≤ q by omega)]
  refine r_istore hX dJ5_newCapacity_0f7a4_16 (by decide) rfl ?_
  refine r_iload_n hX dJ5_newCapacity_0f7a4_18 rfl rfl ?_
  refine r_iload hX dJ5_newCapacity_0f7a4_19 rfl ?_
  refine r_iload_n hX dJ5_newCapacity_0f7a4_21 rfl rfl ?_
  refine r_iconst (v := 2) hX dJ5_newCapacity_0f7a4_22 (by decide) ?_
  refine r_aload_n hX dJ5_newCapacity_0f7a4_23 rfl rfl ?_
  refine r_get hX jf_J5_22 0 rfl rfl dJ5_newCapacity_0f7a4_24 ?_
  refine r_ishl hX dJ5_newCapacity_0f7a4_27 ?_
  refine r_iadd hX dJ5_newCapacity_0f7a4_28 ?_
  rw [show nI m + 2 = nI (m + 2) from nI_add m 2]
  refine r_callS hX (c_newLength _ _ m (q - m) (m + 2) (by omega) (by omega) (by omega)) js_J5_114 rfl rfl (Nat.le_of_ble_eq_true rfl) ⟨(Nat.le_of_ble_eq_true rfl), (Nat.le_of_ble_eq_true rfl)⟩ ⟨(Nat.le_of_ble_eq_true rfl), (Nat.le_of_ble_eq_true rfl)⟩ dJ5_newCapacity_0f7a4_29 (fun _ _ z => False.elim z) (fun v9 ws9 h9 => ?_)
  obtain ⟨rfl, hw9⟩ := h9
  subst ws9
  dsimp only [mPush]
  rw [show m + (m + 2) = 2 * m + 2 by omega]
  refine r_istore hX dJ5_newCapacity_0f7a4_32 (by decide) rfl ?_
  refine r_iload hX dJ5_newCapacity_0f7a4_34 rfl ?_
  refine r_ldc hX jc_J5_39 dJ5_newCapacity_0f7a4_36 ?_
  refine r_icmp_ne (tgt := 51) hX dJ5_newCapacity_0f7a4_38 (by decide) (fun _ => ?_) (fun c9 => absurd ((nI_eq (by omega) (by decide)).mp (show nI (2 * m + 2) = nI 2147483647 from Classical.not_not.mp c9)) (by omega))
  refine r_iload hX dJ5_newCapacity_0f7a4_51 rfl ?_
  refine r_aload_n hX dJ5_newCapacity_0f7a4_53 rfl rfl ?_
  refine r_get hX jf_J5_22 0 rfl rfl dJ5_newCapacity_0f7a4_54 ?_
  refine r_ishr hX dJ5_newCapacity_0f7a4_57 ?_
  exact r_iret hX hE dJ5_newCapacity_0f7a4_58 (Nat.le_of_ble_eq_true rfl) (Nat.le_of_ble_eq_true rfl) ⟨rfl, rfl⟩
set_option maxHeartbeats 1000000 in
theorem c_copyOf (cs : ClassId × ClassId × ClassId) (cB : ClassId) (ws : va_W) (q0 v m L : Nat) (f : Nat → Int32) (he : ws[q0]? = some (v, .inl (cB, m, .inl f))) (hf : sb_Fit f) (h1 : m < L) (h2 : L ≤ 64) : mCt (mTb4 cs cB) yJ7_copyOf_9075b cJ7_copyOf_9075b 3 (some (.array .byte)) ⟨1, 1, 64, 110⟩ [.ref v, .int (nI L)] ws (fun v9 ws' => ∃ (r : Nat) (g : Nat → Int32), sb_Fit g ∧ v9 = some (.ref r) ∧ ws' = (r, .inl (cB, L, .inl g)) :: ws) mNo := by
  refine mCt.of (by decide +kernel) (Nat.le_of_ble_eq_true rfl) (fun X hX hE => ?_)
  replace hX : mOK X RJ7 cJ7_copyOf_9075b 3 ⟨1, 1, 64, 110⟩ [] (mTb4 cs cB) := hX
  refine r_iload_n hX dJ7_copyOf_9075b_0 rfl rfl ?_
  refine r_aload_n hX dJ7_copyOf_9075b_1 rfl rfl ?_
  refine r_alen (v := nI m) hX q0 3 he rfl rfl dJ7_copyOf_9075b_2 ?_
  refine r_icmp_ne (tgt := 14) hX dJ7_copyOf_9075b_3 (by decide) (fun _ => ?_) (fun c9 => absurd ((nI_eq (by omega) (by omega)).mp (show nI L = nI m from Classical.not_not.mp c9)) (by omega))
  refine r_iload_n hX dJ7_copyOf_9075b_14 rfl rfl ?_
  refine r_newB hX 3 rfl (by omega) dJ7_copyOf_9075b_15 (Nat.le_of_ble_eq_true rfl) (show 0 + L ≤ 64 by omega) (fun r => ?_)
  refine r_astore_n hX dJ7_copyOf_9075b_17 rfl (by decide) rfl ?_
  refine r_aload_n hX dJ7_copyOf_9075b_18 rfl rfl ?_
  refine r_iconst (v := 0) hX dJ7_copyOf_9075b_19 (by decide) ?_
  refine r_aload_n hX dJ7_copyOf_9075b_20 rfl rfl ?_
  refine r_iconst (v := 0) hX dJ7_copyOf_9075b_21 (by decide) ?_
  refine r_aload_n hX dJ7_copyOf_9075b_22 rfl rfl ?_
  refine r_alen (v := nI m) hX (q0 + 1) 3 he rfl rfl dJ7_copyOf_9075b_23 ?_
  refine r_iload_n hX dJ7_copyOf_9075b_24 rfl rfl ?_
  refine r_mmin hX jl_J7_304 (Nat.le_of_ble_eq_true rfl) (Nat.le_of_ble_eq_true rfl) (Nat.le_of_ble_eq_true rfl) (show 0 + L ≤ 64 by omega) dJ7_copyOf_9075b_25 ?_
  rw [mminN (show m ≤ L by omega) (by omega)]
  refine r_copyb hX jl_J7_150 (q0 + 1) 0 3 3 he rfl rfl rfl (by decide) (by decide) (nI_pos (by omega)) (by rw [nI_clamp (by omega)]; show 0 + m ≤ m; omega) (by rw [nI_clamp (by omega)]; show 0 + m ≤ L; omega) hf (Nat.le_of_ble_eq_true rfl) (Nat.le_of_ble_eq_true rfl) dJ7_copyOf_9075b_28 ?_
  refine r_aload_n hX dJ7_copyOf_9075b_31 rfl rfl ?_
  exact r_aret hX hE dJ7_copyOf_9075b_32 (Or.inr ⟨_, rfl⟩) (Or.inr ⟨_, rfl⟩) (Nat.le_of_ble_eq_true rfl) (show 0 + L ≤ 64 by omega) ⟨r, _, sb_fitC hf sb_fit0, rfl, rfl⟩
set_option maxHeartbeats 1000000 in
theorem c_ensure (cs : ClassId × ClassId × ClassId) (cB : ClassId) (b v : Nat) (ml : Int32) (n m q : Nat) (f : Nat → Int32) (rest : va_W) (hf : sb_Fit f) (hq : q ≤ m ∨ (q ≤ 2 * m + 2 ∧ m ≤ 31)) (hm : m ≤ 64) : mCt (mTb4 cs cB) yJ5_ensureCapacityInternal_d00df cJ5_ensureCapacityInternal_d00df 3 none ⟨3, 1, 64, 140⟩ [.ref b, .int (nI q)] (mSb b v ml n cB m f rest) (fun v9 ws' => v9 = none ∧ ∃ (v' : Nat) (f' : Nat → Int32), sb_Fit f' ∧ ws' = mSb b v' ml n cB (if q ≤ m then m else 2 * m + 2) f' rest) mNo := by
  refine mCt.of (by decide +kernel) (Nat.le_of_ble_eq_true rfl) (fun X hX hE => ?_)
  replace hX : mOK X RJ5 cJ5_ensureCapacityInternal_d00df 3 ⟨3, 1, 64, 140⟩ [] (mTb4 cs cB) := hX
  refine r_aload_n hX dJ5_ensureCapacityInternal_d00df_0 rfl rfl ?_
  refine r_get hX jf_J5_15 0 rfl rfl dJ5_ensureCapacityInternal_d00df_1 ?_
  refine r_alen (v := nI m) hX 1 3 rfl rfl rfl dJ5_ensureCapacityInternal_d00df_4 ?_
  refine r_aload_n hX dJ5_ensureCapacityInternal_d00df_5 rfl rfl ?_
  refine r_get hX jf_J5_22 0 rfl rfl dJ5_ensureCapacityInternal_d00df_6 ?_
  refine r_ishr hX dJ5_ensureCapacityInternal_d00df_9 ?_
  refine r_istore_n hX dJ5_ensureCapacityInternal_d00df_10 rfl (by decide) rfl ?_
  refine r_iload_n hX dJ5_ensureCapacityInternal_d00df_11 rfl rfl ?_
  refine r_iload_n hX dJ5_ensureCapacityInternal_d00df_12 rfl rfl ?_
  refine r_isub hX dJ5_ensureCapacityInternal_d00df_13 ?_
  have e1 : (nI q - nI m).toInt = (q : Int) - m := pk_sub_toInt (by omega) (by omega)
  refine r_if_le (tgt := 38) hX dJ5_ensureCapacityInternal_d00df_14 (by decide) (fun c9 => ?_) (fun c9 => ?_)
  · have h9 : q ≤ m := by rw [Int32.le_iff_toInt_le, e1, Int32.toInt_zero] at c9; omega
    exact r_vret hX hE dJ5_ensureCapacityInternal_d00df_38 (Nat.le_of_ble_eq_true rfl) (Nat.le_of_ble_eq_true rfl) ⟨rfl, v, f, hf, by rw [if_pos h9]⟩
  have h9 : ¬ q ≤ m := by rw [Int32.le_iff_toInt_le, e1, Int32.toInt_zero] at c9; omega
  refine r_aload_n hX dJ5_ensureCapacityInternal_d00df_17 rfl rfl ?_
  refine r_aload_n hX dJ5_ensureCapacityInternal_d00df_18 rfl rfl ?_
  refine r_get hX jf_J5_15 0 rfl rfl dJ5_ensureCapacityInternal_d00df_19 ?_
  refine r_aload_n hX dJ5_ensureCapacityInternal_d00df_22 rfl rfl ?_
  refine r_iload_n hX dJ5_ensureCapacityInternal_d00df_23 rfl rfl ?_
  refine r_callU hX mGT_h (c_newCapacity cs cB b v ml n m q f rest (by omega) (by omega) (by omega)).ofg ju_J5_104 0 rfl (show vwCl[1]? = _ from rfl) rfl rfl (Nat.le_of_ble_eq_true rfl) ⟨(Nat.le_of_ble_eq_true rfl), (Nat.le_of_ble_eq_true rfl)⟩ ⟨(Nat.le_of_ble_eq_true rfl), (Nat.le_of_ble_eq_true rfl)⟩ dJ5_ensureCapacityInternal_d00df_24 (fun v9 ws9 h8 => ?_)
  obtain ⟨rfl, hw9⟩ := h8
  subst ws9
  dsimp only [mPush]
  refine r_aload_n hX dJ5_ensureCapacityInternal_d00df_27 rfl rfl ?_
  refine r_get hX jf_J5_22 0 rfl rfl dJ5_ensureCapacityInternal_d00df_28 ?_
  refine r_ishl hX dJ5_ensureCapacityInternal_d00df_31 ?_
  refine r_callS hX (c_copyOf cs cB _ 1 v m (2 * m + 2) f rfl hf (by omega) (by omega)) js_J5_108 rfl rfl (Nat.le_of_ble_eq_true rfl) ⟨(Nat.le_of_ble_eq_true rfl), (Nat.le_of_ble_eq_true rfl)⟩ ⟨(Nat.le_of_ble_eq_true rfl), (Nat.le_of_ble_eq_true rfl)⟩ dJ5_ensureCapacityInternal_d00df_32 (fun _ _ z => False.elim z) (fun v9 ws9 h8 => ?_)
  obtain ⟨r, g, hg9, rfl, hw9⟩ := h8
  subst ws9
  dsimp only [mPush]
  refine r_put hX jf_J5_15 1 rfl rfl rfl rfl (Nat.le_of_ble_eq_true rfl) dJ5_ensureCapacityInternal_d00df_35 ?_
  refine r_part (B := [(r, .inl (cB, 2 * m + 2, .inl g)), (b, .inr (1, [.ref r, .int 0, .int ml, .int (nI n)])), (v, .inl (cB, m, .inl f))]) (C := mSb b r ml n cB (2 * m + 2) g []) (pl := rest) [1, 0] rfl rfl ?_
  exact r_vret hX hE dJ5_ensureCapacityInternal_d00df_38 (Nat.le_of_ble_eq_true rfl) (Nat.le_of_ble_eq_true rfl) ⟨rfl, r, g, hg9, by rw [if_neg h9]; rfl⟩

