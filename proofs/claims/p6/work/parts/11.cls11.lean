/-! The class, its contracts (rows by a program of this repository). -/
theorem dX2_offset_0 : decode cX2_offset 0 = .ok (.iload_n 1, 1) := by decide +kernel
theorem dX2_offset_1 : decode cX2_offset 1 = .ok (.aload_n 0, 1) := by decide +kernel
theorem dX2_offset_2 : decode cX2_offset 2 = .ok (.getfield 9, 3) := by decide +kernel
theorem dX2_offset_5 : decode cX2_offset 5 = .ok (.arraylength, 1) := by decide +kernel
theorem dX2_offset_6 : decode cX2_offset 6 = .ok (.invokestatic 34, 3) := by decide +kernel
theorem dX2_offset_9 : decode cX2_offset 9 = .ok (.iload_n 2, 1) := by decide +kernel
theorem dX2_offset_10 : decode cX2_offset 10 = .ok (.ldc 38, 2) := by decide +kernel
theorem dX2_offset_12 : decode cX2_offset 12 = .ok (.ldc 39, 2) := by decide +kernel
theorem dX2_offset_14 : decode cX2_offset 14 = .ok (.invokestatic 40, 3) := by decide +kernel
theorem dX2_offset_17 : decode cX2_offset 17 = .ok (.aload_n 0, 1) := by decide +kernel
theorem dX2_offset_18 : decode cX2_offset 18 = .ok (.getfield 9, 3) := by decide +kernel
theorem dX2_offset_21 : decode cX2_offset 21 = .ok (.iload_n 1, 1) := by decide +kernel
theorem dX2_offset_22 : decode cX2_offset 22 = .ok (.iaload, 1) := by decide +kernel
theorem dX2_offset_23 : decode cX2_offset 23 = .ok (.istore_n 3, 1) := by decide +kernel
theorem dX2_offset_24 : decode cX2_offset 24 = .ok (.aload_n 0, 1) := by decide +kernel
theorem dX2_offset_25 : decode cX2_offset 25 = .ok (.getfield 9, 3) := by decide +kernel
theorem dX2_offset_28 : decode cX2_offset 28 = .ok (.iload_n 1, 1) := by decide +kernel
theorem dX2_offset_29 : decode cX2_offset 29 = .ok (.iload_n 2, 1) := by decide +kernel
theorem dX2_offset_30 : decode cX2_offset 30 = .ok (.iastore, 1) := by decide +kernel
theorem dX2_offset_31 : decode cX2_offset 31 = .ok (.iload_n 3, 1) := by decide +kernel
theorem dX2_offset_32 : decode cX2_offset 32 = .ok (.ireturn, 1) := by decide +kernel
set_option maxHeartbeats 4000000 in
set_option maxRecDepth 20000 in
theorem c_X2_offset (ad : Nat → Nat) (cs : ClassId × ClassId × ClassId) (K : mK) (rest : va_W) (p0 p1 : Int32) : mCt (mTy cs) yX2_offset cX2_offset 4 (some .int) ⟨7, 2, 12, 104⟩ [.ref (ad 0), .int p0, .int p1] (mWd ad cs K rest) (fun v ws' => ∃ j, j < 4 ∧ p0 = nI j ∧ (-64800 ≤ p1 ∧ p1 ≤ 64800) ∧ v = some (.int (K.1 j)) ∧ ws' = mWd ad cs (upd K.1 j p1, K.2) rest) (fun E ws' => (E = xI ∧ ws' = mWd ad cs K rest ∧ ¬ vp_in p0 4) ∨ (E = xA ∧ ws' = mWd ad cs K rest ∧ vp_in p0 4 ∧ ¬ (-64800 ≤ p1 ∧ p1 ≤ 64800))) := by
  refine mCt.of (by decide +kernel) (Nat.le_of_ble_eq_true rfl) (fun X hX hE => ?_)
  have hX : mOK X RX2 cX2_offset 4 ⟨7, 2, 12, 104⟩ [] (mTy cs) := hX
  refine r_iload_n hX dX2_offset_0 rfl rfl ?_
  refine r_aload_n hX dX2_offset_1 rfl rfl ?_
  refine r_get hX kf_X2_9 0 rfl rfl dX2_offset_2 ?_
  refine r_alen (v := nI 4) hX 1 0 rfl rfl rfl dX2_offset_5 ?_
  refine r_callS hX (c_X2_requireOne _ _ _ 4 (by decide)) ks_X2_34 rfl rfl (Nat.le_of_ble_eq_true rfl) ⟨(Nat.le_of_ble_eq_true rfl), (Nat.le_of_ble_eq_true rfl)⟩ ⟨(Nat.le_of_ble_eq_true rfl), (Nat.le_of_ble_eq_true rfl)⟩ dX2_offset_6 (fun E ws9 z => r_out hX hE (Nat.le_of_ble_eq_true rfl) (Nat.le_of_ble_eq_true rfl) (Or.inl z)) (fun v9 ws9 h1 => ?_)
  obtain ⟨i3, hhi3, rfl, rfl, hw9⟩ := h1
  subst ws9
  dsimp only [mPush]
  refine r_iload_n hX dX2_offset_9 rfl rfl ?_
  refine r_ldc hX kc_X2_38 dX2_offset_10 ?_
  refine r_ldc hX kc_X2_39 dX2_offset_12 ?_
  refine r_callS hX (c_X2_requireWithin _ _ _ _ _) ks_X2_40 rfl rfl (Nat.le_of_ble_eq_true rfl) ⟨(Nat.le_of_ble_eq_true rfl), (Nat.le_of_ble_eq_true rfl)⟩ ⟨(Nat.le_of_ble_eq_true rfl), (Nat.le_of_ble_eq_true rfl)⟩ dX2_offset_14 (fun E ws9 z => r_out hX hE (Nat.le_of_ble_eq_true rfl) (Nat.le_of_ble_eq_true rfl) (Or.inr ⟨z.1, z.2.1, vp_in_nI hhi3 (by decide), z.2.2⟩)) (fun v9 ws9 h4 => ?_)
  obtain ⟨a6, rfl, hw9⟩ := h4
  subst ws9
  dsimp only [mPush]
  refine r_aload_n hX dX2_offset_17 rfl rfl ?_
  refine r_get hX kf_X2_9 0 rfl rfl dX2_offset_18 ?_
  refine r_iload_n hX dX2_offset_21 rfl rfl ?_
  refine r_iald hX 1 0 rfl rfl (vp_in_nI hhi3 (by decide)) dX2_offset_22 ?_
  refine r_istore_n hX dX2_offset_23 rfl (by decide) rfl ?_
  refine r_aload_n hX dX2_offset_24 rfl rfl ?_
  refine r_get hX kf_X2_9 0 rfl rfl dX2_offset_25 ?_
  refine r_iload_n hX dX2_offset_28 rfl rfl ?_
  refine r_iload_n hX dX2_offset_29 rfl rfl ?_
  refine r_iast hX 1 0 rfl rfl (vp_in_nI hhi3 (by decide)) dX2_offset_30 ?_
  refine r_iload_n hX dX2_offset_31 rfl rfl ?_
  refine r_iret hX hE dX2_offset_32 (Nat.le_of_ble_eq_true rfl) (Nat.le_of_ble_eq_true rfl) ⟨i3, hhi3, rfl, by assumption, ?_, ?_⟩ <;> rw [nI_clamp (show i3 < 2 ^ 31 by omega)] <;> rfl
theorem c_X2_refused_x (ad : Nat → Nat) (cs : ClassId × ClassId × ClassId) (K : mK) (rest : va_W) : mCt (mTy cs) yX2_refused cX2_refused 1 (some .int) ⟨0, 0, 0, 0⟩ [.ref (ad 0)] (mWd ad cs K rest) (fun v ws' => v = some (.int (-9)) ∧ ws' = mWd ad cs (K.1, K.2.1, K.2.2.1, K.2.2.2.1, K.2.2.2.2 + 1) rest) mNo := by
  refine mCt.of (by decide +kernel) (Nat.le_of_ble_eq_true rfl) (fun X hX hE => ?_)
  replace hX : mOK X RX2 cX2_refused 1 ⟨0, 0, 0, 0⟩ [] (mTy cs) := hX
  refine r_aload_n hX dX2_refused_0 rfl rfl ?_
  refine r_dup hX dX2_refused_1 rfl ?_
  refine r_get hX kf_X2_199 0 rfl rfl dX2_refused_2 ?_
  refine r_iconst (v := 1) hX dX2_refused_5 (by decide) ?_
  refine r_iadd hX dX2_refused_6 ?_
  refine r_put hX kf_X2_199 0 rfl rfl rfl rfl (Nat.le_of_ble_eq_true rfl) dX2_refused_7 ?_
  refine r_bipush (v := -9) hX dX2_refused_10 (by decide) ?_
  exact r_iret hX hE dX2_refused_12 (Nat.le_of_ble_eq_true rfl) (Nat.le_of_ble_eq_true rfl) ⟨rfl, rfl⟩
theorem fwi {x a' b' : Int32} {a b : Int64} (ha : a = a'.toInt64) (hb : b = b'.toInt64) : f_isWithin x.toInt64 a b = 0 ↔ ¬ (a' ≤ x ∧ x ≤ b') := by
  subst ha; subst hb
  simp only [f_isWithin, i2l_le]
  split <;> simp_all
theorem fw18 {x : Int32} : f_isWithin x.toInt64 (-18) 18 = 0 ↔ ¬ (-18 ≤ x ∧ x ≤ 18) := fwi (by decide) (by decide)
theorem fw59 {x : Int32} : f_isWithin x.toInt64 (-59) 59 = 0 ↔ ¬ (-59 ≤ x ∧ x ≤ 59) := fwi (by decide) (by decide)
theorem fw64 {x : Int32} : f_isWithin x.toInt64 (-64800) 64800 = 0 ↔ ¬ (-64800 ≤ x ∧ x ≤ 64800) := fwi (by decide) (by decide)
/-- what offsetOf makes of hours, minutes and seconds -/
def f_off (h m s : Int32) : Option Int32 := if ((-18 ≤ h ∧ h ≤ 18) ∧ (-59 ≤ m ∧ m ≤ 59) ∧ (-59 ≤ s ∧ s ≤ 59)) ∧ ¬ ((0 < h ∨ 0 < m ∨ 0 < s) ∧ (h < 0 ∨ m < 0 ∨ s < 0)) ∧ (-64800 ≤ h * 3600 + m * 60 + s ∧ h * 3600 + m * 60 + s ≤ 64800) then some (h * 3600 + m * 60 + s) else none
def f_offS (f : Nat → Int32) (j : Nat) (o : Option Int32) : Nat → Int32 := match o with
  | none => f
  | some t => upd f j t
theorem f_off_n1 {h m s : Int32} (c : ¬ (-18 ≤ h ∧ h ≤ 18)) : f_off h m s = none := if_neg (fun q => c q.1.1)
theorem f_off_n2 {h m s : Int32} (c : ¬ (-59 ≤ m ∧ m ≤ 59)) : f_off h m s = none := if_neg (fun q => c q.1.2.1)
theorem f_off_n3 {h m s : Int32} (c : ¬ (-59 ≤ s ∧ s ≤ 59)) : f_off h m s = none := if_neg (fun q => c q.1.2.2)
theorem f_off_n4 {h m s : Int32} (c : (0 < h ∨ 0 < m ∨ 0 < s) ∧ (h < 0 ∨ m < 0 ∨ s < 0)) : f_off h m s = none := if_neg (fun q => q.2.1 c)
theorem f_off_n5 {h m s : Int32} (c : ¬ (-64800 ≤ h * 3600 + m * 60 + s ∧ h * 3600 + m * 60 + s ≤ 64800)) : f_off h m s = none := if_neg (fun q => c q.2.2)
theorem f_off_y {h m s : Int32} (c1 : ¬ ¬ (-18 ≤ h ∧ h ≤ 18)) (c2 : ¬ ¬ (-59 ≤ m ∧ m ≤ 59)) (c3 : ¬ ¬ (-59 ≤ s ∧ s ≤ 59)) (c4 : ¬ ((0 < h ∨ 0 < m ∨ 0 < s) ∧ (h < 0 ∨ m < 0 ∨ s < 0))) (c5 : ¬ ¬ (-64800 ≤ h * 3600 + m * 60 + s ∧ h * 3600 + m * 60 + s ≤ 64800)) : f_off h m s = some (h * 3600 + m * 60 + s) := if_pos ⟨⟨Classical.not_not.mp c1, Classical.not_not.mp c2, Classical.not_not.mp c3⟩, c4, Classical.not_not.mp c5⟩
theorem dX2_offsetOf_0 : decode cX2_offsetOf 0 = .ok (.iload_n 1, 1) := by decide +kernel
theorem dX2_offsetOf_1 : decode cX2_offsetOf 1 = .ok (.aload_n 0, 1) := by decide +kernel
theorem dX2_offsetOf_2 : decode cX2_offsetOf 2 = .ok (.getfield 9, 3) := by decide +kernel
theorem dX2_offsetOf_5 : decode cX2_offsetOf 5 = .ok (.arraylength, 1) := by decide +kernel
theorem dX2_offsetOf_6 : decode cX2_offsetOf 6 = .ok (.invokestatic 34, 3) := by decide +kernel
theorem dX2_offsetOf_9 : decode cX2_offsetOf 9 = .ok (.iload_n 2, 1) := by decide +kernel
theorem dX2_offsetOf_10 : decode cX2_offsetOf 10 = .ok (.i2l, 1) := by decide +kernel
theorem dX2_offsetOf_11 : decode cX2_offsetOf 11 = .ok (.ldc2_w 44, 3) := by decide +kernel
theorem dX2_offsetOf_14 : decode cX2_offsetOf 14 = .ok (.ldc2_w 46, 3) := by decide +kernel
theorem dX2_offsetOf_17 : decode cX2_offsetOf 17 = .ok (.invokestatic 48, 3) := by decide +kernel
theorem dX2_offsetOf_20 : decode cX2_offsetOf 20 = .ok (.ifCond .eq 32, 3) := by decide +kernel
theorem dX2_offsetOf_23 : decode cX2_offsetOf 23 = .ok (.iload_n 3, 1) := by decide +kernel
theorem dX2_offsetOf_24 : decode cX2_offsetOf 24 = .ok (.i2l, 1) := by decide +kernel
theorem dX2_offsetOf_25 : decode cX2_offsetOf 25 = .ok (.ldc2_w 52, 3) := by decide +kernel
theorem dX2_offsetOf_28 : decode cX2_offsetOf 28 = .ok (.ldc2_w 54, 3) := by decide +kernel
theorem dX2_offsetOf_31 : decode cX2_offsetOf 31 = .ok (.invokestatic 48, 3) := by decide +kernel
theorem dX2_offsetOf_34 : decode cX2_offsetOf 34 = .ok (.ifCond .eq 18, 3) := by decide +kernel
theorem dX2_offsetOf_37 : decode cX2_offsetOf 37 = .ok (.iload 4, 2) := by decide +kernel
theorem dX2_offsetOf_39 : decode cX2_offsetOf 39 = .ok (.i2l, 1) := by decide +kernel
theorem dX2_offsetOf_40 : decode cX2_offsetOf 40 = .ok (.ldc2_w 52, 3) := by decide +kernel
theorem dX2_offsetOf_43 : decode cX2_offsetOf 43 = .ok (.ldc2_w 54, 3) := by decide +kernel
theorem dX2_offsetOf_46 : decode cX2_offsetOf 46 = .ok (.invokestatic 48, 3) := by decide +kernel
theorem dX2_offsetOf_49 : decode cX2_offsetOf 49 = .ok (.ifCond .ne 8, 3) := by decide +kernel
theorem dX2_offsetOf_52 : decode cX2_offsetOf 52 = .ok (.aload_n 0, 1) := by decide +kernel
theorem dX2_offsetOf_53 : decode cX2_offsetOf 53 = .ok (.invokevirtual 56, 3) := by decide +kernel
theorem dX2_offsetOf_56 : decode cX2_offsetOf 56 = .ok (.ireturn, 1) := by decide +kernel
theorem dX2_offsetOf_57 : decode cX2_offsetOf 57 = .ok (.iload_n 2, 1) := by decide +kernel
theorem dX2_offsetOf_58 : decode cX2_offsetOf 58 = .ok (.ifCond .gt 12, 3) := by decide +kernel
theorem dX2_offsetOf_61 : decode cX2_offsetOf 61 = .ok (.iload_n 3, 1) := by decide +kernel
theorem dX2_offsetOf_62 : decode cX2_offsetOf 62 = .ok (.ifCond .gt 8, 3) := by decide +kernel
theorem dX2_offsetOf_65 : decode cX2_offsetOf 65 = .ok (.iload 4, 2) := by decide +kernel
theorem dX2_offsetOf_67 : decode cX2_offsetOf 67 = .ok (.ifCond .le 7, 3) := by decide +kernel
theorem dX2_offsetOf_70 : decode cX2_offsetOf 70 = .ok (.iconst 1, 1) := by decide +kernel
theorem dX2_offsetOf_71 : decode cX2_offsetOf 71 = .ok (.goto 4, 3) := by decide +kernel
theorem dX2_offsetOf_74 : decode cX2_offsetOf 74 = .ok (.iconst 0, 1) := by decide +kernel
theorem dX2_offsetOf_75 : decode cX2_offsetOf 75 = .ok (.istore 5, 2) := by decide +kernel
theorem dX2_offsetOf_77 : decode cX2_offsetOf 77 = .ok (.iload_n 2, 1) := by decide +kernel
theorem dX2_offsetOf_78 : decode cX2_offsetOf 78 = .ok (.ifCond .lt 12, 3) := by decide +kernel
theorem dX2_offsetOf_81 : decode cX2_offsetOf 81 = .ok (.iload_n 3, 1) := by decide +kernel
theorem dX2_offsetOf_82 : decode cX2_offsetOf 82 = .ok (.ifCond .lt 8, 3) := by decide +kernel
theorem dX2_offsetOf_85 : decode cX2_offsetOf 85 = .ok (.iload 4, 2) := by decide +kernel
theorem dX2_offsetOf_87 : decode cX2_offsetOf 87 = .ok (.ifCond .ge 7, 3) := by decide +kernel
theorem dX2_offsetOf_90 : decode cX2_offsetOf 90 = .ok (.iconst 1, 1) := by decide +kernel
theorem dX2_offsetOf_91 : decode cX2_offsetOf 91 = .ok (.goto 4, 3) := by decide +kernel
theorem dX2_offsetOf_94 : decode cX2_offsetOf 94 = .ok (.iconst 0, 1) := by decide +kernel
theorem dX2_offsetOf_95 : decode cX2_offsetOf 95 = .ok (.istore 6, 2) := by decide +kernel
theorem dX2_offsetOf_97 : decode cX2_offsetOf 97 = .ok (.iload_n 2, 1) := by decide +kernel
theorem dX2_offsetOf_98 : decode cX2_offsetOf 98 = .ok (.sipush 3600, 3) := by decide +kernel
theorem dX2_offsetOf_101 : decode cX2_offsetOf 101 = .ok (.imul, 1) := by decide +kernel
theorem dX2_offsetOf_102 : decode cX2_offsetOf 102 = .ok (.iload_n 3, 1) := by decide +kernel
theorem dX2_offsetOf_103 : decode cX2_offsetOf 103 = .ok (.bipush 60, 2) := by decide +kernel
theorem dX2_offsetOf_105 : decode cX2_offsetOf 105 = .ok (.imul, 1) := by decide +kernel
theorem dX2_offsetOf_106 : decode cX2_offsetOf 106 = .ok (.iadd, 1) := by decide +kernel
theorem dX2_offsetOf_107 : decode cX2_offsetOf 107 = .ok (.iload 4, 2) := by decide +kernel
theorem dX2_offsetOf_109 : decode cX2_offsetOf 109 = .ok (.iadd, 1) := by decide +kernel
theorem dX2_offsetOf_110 : decode cX2_offsetOf 110 = .ok (.istore 7, 2) := by decide +kernel
theorem dX2_offsetOf_112 : decode cX2_offsetOf 112 = .ok (.iload 5, 2) := by decide +kernel
theorem dX2_offsetOf_114 : decode cX2_offsetOf 114 = .ok (.ifCond .eq 8, 3) := by decide +kernel
theorem dX2_offsetOf_117 : decode cX2_offsetOf 117 = .ok (.iload 6, 2) := by decide +kernel
theorem dX2_offsetOf_119 : decode cX2_offsetOf 119 = .ok (.ifCond .ne 18, 3) := by decide +kernel
theorem dX2_offsetOf_122 : decode cX2_offsetOf 122 = .ok (.iload 7, 2) := by decide +kernel
theorem dX2_offsetOf_124 : decode cX2_offsetOf 124 = .ok (.i2l, 1) := by decide +kernel
theorem dX2_offsetOf_125 : decode cX2_offsetOf 125 = .ok (.ldc2_w 60, 3) := by decide +kernel
theorem dX2_offsetOf_128 : decode cX2_offsetOf 128 = .ok (.ldc2_w 62, 3) := by decide +kernel
theorem dX2_offsetOf_131 : decode cX2_offsetOf 131 = .ok (.invokestatic 48, 3) := by decide +kernel
theorem dX2_offsetOf_134 : decode cX2_offsetOf 134 = .ok (.ifCond .ne 8, 3) := by decide +kernel
theorem dX2_offsetOf_137 : decode cX2_offsetOf 137 = .ok (.aload_n 0, 1) := by decide +kernel
theorem dX2_offsetOf_138 : decode cX2_offsetOf 138 = .ok (.invokevirtual 56, 3) := by decide +kernel
theorem dX2_offsetOf_141 : decode cX2_offsetOf 141 = .ok (.ireturn, 1) := by decide +kernel
theorem dX2_offsetOf_142 : decode cX2_offsetOf 142 = .ok (.aload_n 0, 1) := by decide +kernel
theorem dX2_offsetOf_143 : decode cX2_offsetOf 143 = .ok (.getfield 9, 3) := by decide +kernel
theorem dX2_offsetOf_146 : decode cX2_offsetOf 146 = .ok (.iload_n 1, 1) := by decide +kernel
theorem dX2_offsetOf_147 : decode cX2_offsetOf 147 = .ok (.iload 7, 2) := by decide +kernel
theorem dX2_offsetOf_149 : decode cX2_offsetOf 149 = .ok (.iastore, 1) := by decide +kernel
theorem dX2_offsetOf_150 : decode cX2_offsetOf 150 = .ok (.iload 7, 2) := by decide +kernel
theorem dX2_offsetOf_152 : decode cX2_offsetOf 152 = .ok (.ireturn, 1) := by decide +kernel
set_option maxHeartbeats 4000000 in
set_option maxRecDepth 20000 in
theorem c_X2_offsetOf (ad : Nat → Nat) (cs : ClassId × ClassId × ClassId) (K : mK) (rest : va_W) (p0 p1 p2 p3 : Int32) : mCt (mTy cs) yX2_offsetOf cX2_offsetOf 8 (some .int) ⟨7, 1, 6, 103⟩ [.ref (ad 0), .int p0, .int p1, .int p2, .int p3] (mWd ad cs K rest) (fun v ws' => ∃ j K', j < 4 ∧ p0 = nI j ∧ K'.1 = f_offS K.1 j (f_off p1 p2 p3) ∧ v = some (.int ((f_off p1 p2 p3).getD (-9))) ∧ ws' = mWd ad cs K' rest) (fun E ws' => E = xI ∧ ws' = mWd ad cs K rest ∧ ¬ vp_in p0 4) := by
  refine mCt.of (by decide +kernel) (Nat.le_of_ble_eq_true rfl) (fun X hX hE => ?_)
  have hX : mOK X RX2 cX2_offsetOf 8 ⟨7, 1, 6, 103⟩ [] (mTy cs) := hX
  refine r_iload_n hX dX2_offsetOf_0 rfl rfl ?_
  refine r_aload_n hX dX2_offsetOf_1 rfl rfl ?_
  refine r_get hX kf_X2_9 0 rfl rfl dX2_offsetOf_2 ?_
  refine r_alen (v := nI 4) hX 1 0 rfl rfl rfl dX2_offsetOf_5 ?_
  refine r_callS hX (c_X2_requireOne _ _ _ 4 (by decide)) ks_X2_34 rfl rfl (Nat.le_of_ble_eq_true rfl) ⟨(Nat.le_of_ble_eq_true rfl), (Nat.le_of_ble_eq_true rfl)⟩ ⟨(Nat.le_of_ble_eq_true rfl), (Nat.le_of_ble_eq_true rfl)⟩ dX2_offsetOf_6 (fun E ws9 z => r_out hX hE (Nat.le_of_ble_eq_true rfl) (Nat.le_of_ble_eq_true rfl) (z)) (fun v9 ws9 h1 => ?_)
  obtain ⟨i3, hhi3, rfl, rfl, hw9⟩ := h1
  subst ws9
  dsimp only [mPush]
  refine r_iload_n hX dX2_offsetOf_9 rfl rfl ?_
  refine r_i2l hX dX2_offsetOf_10 ?_
  refine r_ldc2 hX kc_X2_44 dX2_offsetOf_11 ?_
  refine r_ldc2 hX kc_X2_46 dX2_offsetOf_14 ?_
  refine r_callS hX (c_X2_isWithin _ _ _ _ _) ks_X2_48 rfl rfl (Nat.le_of_ble_eq_true rfl) ⟨(Nat.le_of_ble_eq_true rfl), (Nat.le_of_ble_eq_true rfl)⟩ ⟨(Nat.le_of_ble_eq_true rfl), (Nat.le_of_ble_eq_true rfl)⟩ dX2_offsetOf_17 (fun _ _ z => False.elim z) (fun v9 ws9 h4 => ?_)
  obtain ⟨rfl, hw9⟩ := h4
  subst ws9
  dsimp only [mPush]
  refine r_if_eq (tgt := 52) hX dX2_offsetOf_20 (by decide) (fun c6 => ?_) (fun c6 => ?_)
  · refine r_aload_n hX dX2_offsetOf_52 rfl rfl ?_
    refine r_callV hX (c_X2_refused_x _ _ _ _) kv_X2_56 0 rfl rfl rfl rfl (Nat.le_of_ble_eq_true rfl) ⟨(Nat.le_of_ble_eq_true rfl), (Nat.le_of_ble_eq_true rfl)⟩ ⟨(Nat.le_of_ble_eq_true rfl), (Nat.le_of_ble_eq_true rfl)⟩ dX2_offsetOf_53 (fun _ _ z => False.elim z) (fun v9 ws9 h7 => ?_)
    obtain ⟨rfl, hw9⟩ := h7
    subst ws9
    dsimp only [mPush]
    have ho : f_off p1 p2 p3 = none := by first | exact f_off_n1 (fw18.mp (by first | assumption | exact Classical.not_not.mp (by assumption))) | exact f_off_n2 (fw59.mp (by first | assumption | exact Classical.not_not.mp (by assumption))) | exact f_off_n3 (fw59.mp (by first | assumption | exact Classical.not_not.mp (by assumption))) | exact f_off_n5 (fw64.mp (by first | assumption | exact Classical.not_not.mp (by assumption))) | exact f_off_n4 ⟨by first | exact Or.inl (by first | assumption | exact Int32.not_le.mp (by assumption)) | exact Or.inr (Or.inl (by first | assumption | exact Int32.not_le.mp (by assumption))) | exact Or.inr (Or.inr (by first | assumption | exact Int32.not_le.mp (by assumption))), by first | exact Or.inl (by first | assumption | exact Int32.not_le.mp (by assumption)) | exact Or.inr (Or.inl (by first | assumption | exact Int32.not_le.mp (by assumption))) | exact Or.inr (Or.inr (by first | assumption | exact Int32.not_le.mp (by assumption)))⟩
    exact r_iret hX hE dX2_offsetOf_56 (Nat.le_of_ble_eq_true rfl) (Nat.le_of_ble_eq_true rfl) ⟨i3, (K.1, K.2.1, K.2.2.1, K.2.2.2.1, K.2.2.2.2 + 1), hhi3, rfl, by rw [ho]; rfl, by rw [ho]; rfl, rfl⟩
  · refine r_iload_n hX dX2_offsetOf_23 rfl rfl ?_
    refine r_i2l hX dX2_offsetOf_24 ?_
    refine r_ldc2 hX kc_X2_52 dX2_offsetOf_25 ?_
    refine r_ldc2 hX kc_X2_54 dX2_offsetOf_28 ?_
    refine r_callS hX (c_X2_isWithin _ _ _ _ _) ks_X2_48 rfl rfl (Nat.le_of_ble_eq_true rfl) ⟨(Nat.le_of_ble_eq_true rfl), (Nat.le_of_ble_eq_true rfl)⟩ ⟨(Nat.le_of_ble_eq_true rfl), (Nat.le_of_ble_eq_true rfl)⟩ dX2_offsetOf_31 (fun _ _ z => False.elim z) (fun v9 ws9 h9 => ?_)
    obtain ⟨rfl, hw9⟩ := h9
    subst ws9
    dsimp only [mPush]
    refine r_if_eq (tgt := 52) hX dX2_offsetOf_34 (by decide) (fun c11 => ?_) (fun c11 => ?_)
    · refine r_aload_n hX dX2_offsetOf_52 rfl rfl ?_
      refine r_callV hX (c_X2_refused_x _ _ _ _) kv_X2_56 0 rfl rfl rfl rfl (Nat.le_of_ble_eq_true rfl) ⟨(Nat.le_of_ble_eq_true rfl), (Nat.le_of_ble_eq_true rfl)⟩ ⟨(Nat.le_of_ble_eq_true rfl), (Nat.le_of_ble_eq_true rfl)⟩ dX2_offsetOf_53 (fun _ _ z => False.elim z) (fun v9 ws9 h12 => ?_)
      obtain ⟨rfl, hw9⟩ := h12
      subst ws9
      dsimp only [mPush]
      have ho : f_off p1 p2 p3 = none := by first | exact f_off_n1 (fw18.mp (by first | assumption | exact Classical.not_not.mp (by assumption))) | exact f_off_n2 (fw59.mp (by first | assumption | exact Classical.not_not.mp (by assumption))) | exact f_off_n3 (fw59.mp (by first | assumption | exact Classical.not_not.mp (by assumption))) | exact f_off_n5 (fw64.mp (by first | assumption | exact Classical.not_not.mp (by assumption))) | exact f_off_n4 ⟨by first | exact Or.inl (by first | assumption | exact Int32.not_le.mp (by assumption)) | exact Or.inr (Or.inl (by first | assumption | exact Int32.not_le.mp (by assumption))) | exact Or.inr (Or.inr (by first | assumption | exact Int32.not_le.mp (by assumption))), by first | exact Or.inl (by first | assumption | exact Int32.not_le.mp (by assumption)) | exact Or.inr (Or.inl (by first | assumption | exact Int32.not_le.mp (by assumption))) | exact Or.inr (Or.inr (by first | assumption | exact Int32.not_le.mp (by assumption)))⟩
      exact r_iret hX hE dX2_offsetOf_56 (Nat.le_of_ble_eq_true rfl) (Nat.le_of_ble_eq_true rfl) ⟨i3, (K.1, K.2.1, K.2.2.1, K.2.2.2.1, K.2.2.2.2 + 1), hhi3, rfl, by rw [ho]; rfl, by rw [ho]; rfl, rfl⟩
    · refine r_iload hX dX2_offsetOf_37 rfl ?_
      refine r_i2l hX dX2_offsetOf_39 ?_
      refine r_ldc2 hX kc_X2_52 dX2_offsetOf_40 ?_
      refine r_ldc2 hX kc_X2_54 dX2_offsetOf_43 ?_
      refine r_callS hX (c_X2_isWithin _ _ _ _ _) ks_X2_48 rfl rfl (Nat.le_of_ble_eq_true rfl) ⟨(Nat.le_of_ble_eq_true rfl), (Nat.le_of_ble_eq_true rfl)⟩ ⟨(Nat.le_of_ble_eq_true rfl), (Nat.le_of_ble_eq_true rfl)⟩ dX2_offsetOf_46 (fun _ _ z => False.elim z) (fun v9 ws9 h14 => ?_)
      obtain ⟨rfl, hw9⟩ := h14
      subst ws9
      dsimp only [mPush]
      refine r_if_ne (tgt := 57) hX dX2_offsetOf_49 (by decide) (fun c16 => ?_) (fun c16 => ?_)
      · refine r_iload_n hX dX2_offsetOf_57 rfl rfl ?_
        refine r_if_gt (tgt := 70) hX dX2_offsetOf_58 (by decide) (fun c17 => ?_) (fun c17 => ?_)
        · refine r_iconst (v := 1) hX dX2_offsetOf_70 (by decide) ?_
          refine r_goto (tgt := 75) hX dX2_offsetOf_71 (by decide) ?_
          refine r_istore hX dX2_offsetOf_75 (by decide) rfl ?_
          refine r_iload_n hX dX2_offsetOf_77 rfl rfl ?_
          refine r_if_lt (tgt := 90) hX dX2_offsetOf_78 (by decide) (fun c18 => ?_) (fun c18 => ?_)
          · refine r_iconst (v := 1) hX dX2_offsetOf_90 (by decide) ?_
            refine r_goto (tgt := 95) hX dX2_offsetOf_91 (by decide) ?_
            refine r_istore hX dX2_offsetOf_95 (by decide) rfl ?_
            refine r_iload_n hX dX2_offsetOf_97 rfl rfl ?_
            refine r_sipush (v := 3600) hX dX2_offsetOf_98 (by decide) ?_
            refine r_imul hX dX2_offsetOf_101 ?_
            refine r_iload_n hX dX2_offsetOf_102 rfl rfl ?_
            refine r_bipush (v := 60) hX dX2_offsetOf_103 (by decide) ?_
            refine r_imul hX dX2_offsetOf_105 ?_
            refine r_iadd hX dX2_offsetOf_106 ?_
            refine r_iload hX dX2_offsetOf_107 rfl ?_
            refine r_iadd hX dX2_offsetOf_109 ?_
            refine r_istore hX dX2_offsetOf_110 (by decide) rfl ?_
            refine r_iload hX dX2_offsetOf_112 rfl ?_
            refine r_if_eq (tgt := 122) hX dX2_offsetOf_114 (by decide) (fun c19 => absurd c19 (by decide)) (fun c19 => ?_)
            refine r_iload hX dX2_offsetOf_117 rfl ?_
            refine r_if_ne (tgt := 137) hX dX2_offsetOf_119 (by decide) (fun c20 => ?_) (fun c20 => absurd (by decide) c20)
            refine r_aload_n hX dX2_offsetOf_137 rfl rfl ?_
            refine r_callV hX (c_X2_refused_x _ _ _ _) kv_X2_56 0 rfl rfl rfl rfl (Nat.le_of_ble_eq_true rfl) ⟨(Nat.le_of_ble_eq_true rfl), (Nat.le_of_ble_eq_true rfl)⟩ ⟨(Nat.le_of_ble_eq_true rfl), (Nat.le_of_ble_eq_true rfl)⟩ dX2_offsetOf_138 (fun _ _ z => False.elim z) (fun v9 ws9 h21 => ?_)
            obtain ⟨rfl, hw9⟩ := h21
            subst ws9
            dsimp only [mPush]
            have ho : f_off p1 p2 p3 = none := by first | exact f_off_n1 (fw18.mp (by first | assumption | exact Classical.not_not.mp (by assumption))) | exact f_off_n2 (fw59.mp (by first | assumption | exact Classical.not_not.mp (by assumption))) | exact f_off_n3 (fw59.mp (by first | assumption | exact Classical.not_not.mp (by assumption))) | exact f_off_n5 (fw64.mp (by first | assumption | exact Classical.not_not.mp (by assumption))) | exact f_off_n4 ⟨by first | exact Or.inl (by first | assumption | exact Int32.not_le.mp (by assumption)) | exact Or.inr (Or.inl (by first | assumption | exact Int32.not_le.mp (by assumption))) | exact Or.inr (Or.inr (by first | assumption | exact Int32.not_le.mp (by assumption))), by first | exact Or.inl (by first | assumption | exact Int32.not_le.mp (by assumption)) | exact Or.inr (Or.inl (by first | assumption | exact Int32.not_le.mp (by assumption))) | exact Or.inr (Or.inr (by first | assumption | exact Int32.not_le.mp (by assumption)))⟩
            exact r_iret hX hE dX2_offsetOf_141 (Nat.le_of_ble_eq_true rfl) (Nat.le_of_ble_eq_true rfl) ⟨i3, (K.1, K.2.1, K.2.2.1, K.2.2.2.1, K.2.2.2.2 + 1), hhi3, rfl, by rw [ho]; rfl, by rw [ho]; rfl, rfl⟩
          · refine r_iload_n hX dX2_offsetOf_81 rfl rfl ?_
            refine r_if_lt (tgt := 90) hX dX2_offsetOf_82 (by decide) (fun c23 => ?_) (fun c23 => ?_)
            · refine r_iconst (v := 1) hX dX2_offsetOf_90 (by decide) ?_
              refine r_goto (tgt := 95) hX dX2_offsetOf_91 (by decide) ?_
              refine r_istore hX dX2_offsetOf_95 (by decide) rfl ?_
              refine r_iload_n hX dX2_offsetOf_97 rfl rfl ?_
              refine r_sipush (v := 3600) hX dX2_offsetOf_98 (by decide) ?_
              refine r_imul hX dX2_offsetOf_101 ?_
              refine r_iload_n hX dX2_offsetOf_102 rfl rfl ?_
              refine r_bipush (v := 60) hX dX2_offsetOf_103 (by decide) ?_
              refine r_imul hX dX2_offsetOf_105 ?_
              refine r_iadd hX dX2_offsetOf_106 ?_
              refine r_iload hX dX2_offsetOf_107 rfl ?_
              refine r_iadd hX dX2_offsetOf_109 ?_
              refine r_istore hX dX2_offsetOf_110 (by decide) rfl ?_
              refine r_iload hX dX2_offsetOf_112 rfl ?_
              refine r_if_eq (tgt := 122) hX dX2_offsetOf_114 (by decide) (fun c24 => absurd c24 (by decide)) (fun c24 => ?_)
              refine r_iload hX dX2_offsetOf_117 rfl ?_
              refine r_if_ne (tgt := 137) hX dX2_offsetOf_119 (by decide) (fun c25 => ?_) (fun c25 => absurd (by decide) c25)
              refine r_aload_n hX dX2_offsetOf_137 rfl rfl ?_
              refine r_callV hX (c_X2_refused_x _ _ _ _) kv_X2_56 0 rfl rfl rfl rfl (Nat.le_of_ble_eq_true rfl) ⟨(Nat.le_of_ble_eq_true rfl), (Nat.le_of_ble_eq_true rfl)⟩ ⟨(Nat.le_of_ble_eq_true rfl), (Nat.le_of_ble_eq_true rfl)⟩ dX2_offsetOf_138 (fun _ _ z => False.elim z) (fun v9 ws9 h26 => ?_)
              obtain ⟨rfl, hw9⟩ := h26
              subst ws9
              dsimp only [mPush]
              have ho : f_off p1 p2 p3 = none := by first | exact f_off_n1 (fw18.mp (by first | assumption | exact Classical.not_not.mp (by assumption))) | exact f_off_n2 (fw59.mp (by first | assumption | exact Classical.not_not.mp (by assumption))) | exact f_off_n3 (fw59.mp (by first | assumption | exact Classical.not_not.mp (by assumption))) | exact f_off_n5 (fw64.mp (by first | assumption | exact Classical.not_not.mp (by assumption))) | exact f_off_n4 ⟨by first | exact Or.inl (by first | assumption | exact Int32.not_le.mp (by assumption)) | exact Or.inr (Or.inl (by first | assumption | exact Int32.not_le.mp (by assumption))) | exact Or.inr (Or.inr (by first | assumption | exact Int32.not_le.mp (by assumption))), by first | exact Or.inl (by first | assumption | exact Int32.not_le.mp (by assumption)) | exact Or.inr (Or.inl (by first | assumption | exact Int32.not_le.mp (by assumption))) | exact Or.inr (Or.inr (by first | assumption | exact Int32.not_le.mp (by assumption)))⟩
              exact r_iret hX hE dX2_offsetOf_141 (Nat.le_of_ble_eq_true rfl) (Nat.le_of_ble_eq_true rfl) ⟨i3, (K.1, K.2.1, K.2.2.1, K.2.2.2.1, K.2.2.2.2 + 1), hhi3, rfl, by rw [ho]; rfl, by rw [ho]; rfl, rfl⟩
            · refine r_iload hX dX2_offsetOf_85 rfl ?_
              refine r_if_ge (tgt := 94) hX dX2_offsetOf_87 (by decide) (fun c28 => ?_) (fun c28 => ?_)
              · refine r_iconst (v := 0) hX dX2_offsetOf_94 (by decide) ?_
                refine r_istore hX dX2_offsetOf_95 (by decide) rfl ?_
                refine r_iload_n hX dX2_offsetOf_97 rfl rfl ?_
                refine r_sipush (v := 3600) hX dX2_offsetOf_98 (by decide) ?_
                refine r_imul hX dX2_offsetOf_101 ?_
                refine r_iload_n hX dX2_offsetOf_102 rfl rfl ?_
                refine r_bipush (v := 60) hX dX2_offsetOf_103 (by decide) ?_
                refine r_imul hX dX2_offsetOf_105 ?_
                refine r_iadd hX dX2_offsetOf_106 ?_
                refine r_iload hX dX2_offsetOf_107 rfl ?_
                refine r_iadd hX dX2_offsetOf_109 ?_
                refine r_istore hX dX2_offsetOf_110 (by decide) rfl ?_
                refine r_iload hX dX2_offsetOf_112 rfl ?_
                refine r_if_eq (tgt := 122) hX dX2_offsetOf_114 (by decide) (fun c29 => absurd c29 (by decide)) (fun c29 => ?_)
                refine r_iload hX dX2_offsetOf_117 rfl ?_
                refine r_if_ne (tgt := 137) hX dX2_offsetOf_119 (by decide) (fun c30 => absurd c30 (by decide)) (fun c30 => ?_)
                refine r_iload hX dX2_offsetOf_122 rfl ?_
                refine r_i2l hX dX2_offsetOf_124 ?_
                refine r_ldc2 hX kc_X2_60 dX2_offsetOf_125 ?_
                refine r_ldc2 hX kc_X2_62 dX2_offsetOf_128 ?_
                refine r_callS hX (c_X2_isWithin _ _ _ _ _) ks_X2_48 rfl rfl (Nat.le_of_ble_eq_true rfl) ⟨(Nat.le_of_ble_eq_true rfl), (Nat.le_of_ble_eq_true rfl)⟩ ⟨(Nat.le_of_ble_eq_true rfl), (Nat.le_of_ble_eq_true rfl)⟩ dX2_offsetOf_131 (fun _ _ z => False.elim z) (fun v9 ws9 h31 => ?_)
                obtain ⟨rfl, hw9⟩ := h31
                subst ws9
                dsimp only [mPush]
                refine r_if_ne (tgt := 142) hX dX2_offsetOf_134 (by decide) (fun c33 => ?_) (fun c33 => ?_)
                · refine r_aload_n hX dX2_offsetOf_142 rfl rfl ?_
                  refine r_get hX kf_X2_9 0 rfl rfl dX2_offsetOf_143 ?_
                  refine r_iload_n hX dX2_offsetOf_146 rfl rfl ?_
                  refine r_iload hX dX2_offsetOf_147 rfl ?_
                  refine r_iast hX 1 0 rfl rfl (vp_in_nI hhi3 (by decide)) dX2_offsetOf_149 ?_
                  refine r_iload hX dX2_offsetOf_150 rfl ?_
                  have ho : f_off p1 p2 p3 = some (p1 * 3600 + p2 * 60 + p3) := f_off_y (fun q => by first | exact absurd (fw18.mpr q) (by assumption)) (fun q => absurd (fw59.mpr q) (by assumption)) (fun q => absurd (fw59.mpr q) (by assumption)) (by first | exact (fun q => q.1.elim (by first | assumption | exact Int32.not_lt.mpr (by assumption)) (fun q => q.elim (by first | assumption | exact Int32.not_lt.mpr (by assumption)) (by first | assumption | exact Int32.not_lt.mpr (by assumption)))) | exact (fun q => q.2.elim (by first | assumption | exact Int32.not_lt.mpr (by assumption)) (fun q => q.elim (by first | assumption | exact Int32.not_lt.mpr (by assumption)) (by first | assumption | exact Int32.not_lt.mpr (by assumption))))) (fun q => absurd (fw64.mpr q) (by assumption))
                  exact r_iret hX hE dX2_offsetOf_152 (Nat.le_of_ble_eq_true rfl) (Nat.le_of_ble_eq_true rfl) ⟨i3, (upd K.1 i3 _, K.2), hhi3, rfl, by rw [ho]; rfl, by rw [ho]; rfl, by rw [nI_clamp (show i3 < 2 ^ 31 by omega)]; rfl⟩
                · refine r_aload_n hX dX2_offsetOf_137 rfl rfl ?_
                  refine r_callV hX (c_X2_refused_x _ _ _ _) kv_X2_56 0 rfl rfl rfl rfl (Nat.le_of_ble_eq_true rfl) ⟨(Nat.le_of_ble_eq_true rfl), (Nat.le_of_ble_eq_true rfl)⟩ ⟨(Nat.le_of_ble_eq_true rfl), (Nat.le_of_ble_eq_true rfl)⟩ dX2_offsetOf_138 (fun _ _ z => False.elim z) (fun v9 ws9 h34 => ?_)
                  obtain ⟨rfl, hw9⟩ := h34
                  subst ws9
                  dsimp only [mPush]
                  have ho : f_off p1 p2 p3 = none := by first | exact f_off_n1 (fw18.mp (by first | assumption | exact Classical.not_not.mp (by assumption))) | exact f_off_n2 (fw59.mp (by first | assumption | exact Classical.not_not.mp (by assumption))) | exact f_off_n3 (fw59.mp (by first | assumption | exact Classical.not_not.mp (by assumption))) | exact f_off_n5 (fw64.mp (by first | assumption | exact Classical.not_not.mp (by assumption))) | exact f_off_n4 ⟨by first | exact Or.inl (by first | assumption | exact Int32.not_le.mp (by assumption)) | exact Or.inr (Or.inl (by first | assumption | exact Int32.not_le.mp (by assumption))) | exact Or.inr (Or.inr (by first | assumption | exact Int32.not_le.mp (by assumption))), by first | exact Or.inl (by first | assumption | exact Int32.not_le.mp (by assumption)) | exact Or.inr (Or.inl (by first | assumption | exact Int32.not_le.mp (by assumption))) | exact Or.inr (Or.inr (by first | assumption | exact Int32.not_le.mp (by assumption)))⟩
                  exact r_iret hX hE dX2_offsetOf_141 (Nat.le_of_ble_eq_true rfl) (Nat.le_of_ble_eq_true rfl) ⟨i3, (K.1, K.2.1, K.2.2.1, K.2.2.2.1, K.2.2.2.2 + 1), hhi3, rfl, by rw [ho]; rfl, by rw [ho]; rfl, rfl⟩
              · refine r_iconst (v := 1) hX dX2_offsetOf_90 (by decide) ?_
                refine r_goto (tgt := 95) hX dX2_offsetOf_91 (by decide) ?_
                refine r_istore hX dX2_offsetOf_95 (by decide) rfl ?_
                refine r_iload_n hX dX2_offsetOf_97 rfl rfl ?_
                refine r_sipush (v := 3600) hX dX2_offsetOf_98 (by decide) ?_
                refine r_imul hX dX2_offsetOf_101 ?_
                refine r_iload_n hX dX2_offsetOf_102 rfl rfl ?_
                refine r_bipush (v := 60) hX dX2_offsetOf_103 (by decide) ?_
                refine r_imul hX dX2_offsetOf_105 ?_
                refine r_iadd hX dX2_offsetOf_106 ?_
                refine r_iload hX dX2_offsetOf_107 rfl ?_
                refine r_iadd hX dX2_offsetOf_109 ?_
                refine r_istore hX dX2_offsetOf_110 (by decide) rfl ?_
                refine r_iload hX dX2_offsetOf_112 rfl ?_
                refine r_if_eq (tgt := 122) hX dX2_offsetOf_114 (by decide) (fun c36 => absurd c36 (by decide)) (fun c36 => ?_)
                refine r_iload hX dX2_offsetOf_117 rfl ?_
                refine r_if_ne (tgt := 137) hX dX2_offsetOf_119 (by decide) (fun c37 => ?_) (fun c37 => absurd (by decide) c37)
                refine r_aload_n hX dX2_offsetOf_137 rfl rfl ?_
                refine r_callV hX (c_X2_refused_x _ _ _ _) kv_X2_56 0 rfl rfl rfl rfl (Nat.le_of_ble_eq_true rfl) ⟨(Nat.le_of_ble_eq_true rfl), (Nat.le_of_ble_eq_true rfl)⟩ ⟨(Nat.le_of_ble_eq_true rfl), (Nat.le_of_ble_eq_true rfl)⟩ dX2_offsetOf_138 (fun _ _ z => False.elim z) (fun v9 ws9 h38 => ?_)
                obtain ⟨rfl, hw9⟩ := h38
                subst ws9
                dsimp only [mPush]
                have ho : f_off p1 p2 p3 = none := by first | exact f_off_n1 (fw18.mp (by first | assumption | exact Classical.not_not.mp (by assumption))) | exact f_off_n2 (fw59.mp (by first | assumption | exact Classical.not_not.mp (by assumption))) | exact f_off_n3 (fw59.mp (by first | assumption | exact Classical.not_not.mp (by assumption))) | exact f_off_n5 (fw64.mp (by first | assumption | exact Classical.not_not.mp (by assumption))) | exact f_off_n4 ⟨by first | exact Or.inl (by first | assumption | exact Int32.not_le.mp (by assumption)) | exact Or.inr (Or.inl (by first | assumption | exact Int32.not_le.mp (by assumption))) | exact Or.inr (Or.inr (by first | assumption | exact Int32.not_le.mp (by assumption))), by first | exact Or.inl (by first | assumption | exact Int32.not_le.mp (by assumption)) | exact Or.inr (Or.inl (by first | assumption | exact Int32.not_le.mp (by assumption))) | exact Or.inr (Or.inr (by first | assumption | exact Int32.not_le.mp (by assumption)))⟩
                exact r_iret hX hE dX2_offsetOf_141 (Nat.le_of_ble_eq_true rfl) (Nat.le_of_ble_eq_true rfl) ⟨i3, (K.1, K.2.1, K.2.2.1, K.2.2.2.1, K.2.2.2.2 + 1), hhi3, rfl, by rw [ho]; rfl, by rw [ho]; rfl, rfl⟩
        · refine r_iload_n hX dX2_offsetOf_61 rfl rfl ?_
          refine r_if_gt (tgt := 70) hX dX2_offsetOf_62 (by decide) (fun c40 => ?_) (fun c40 => ?_)
          · refine r_iconst (v := 1) hX dX2_offsetOf_70 (by decide) ?_
            refine r_goto (tgt := 75) hX dX2_offsetOf_71 (by decide) ?_
            refine r_istore hX dX2_offsetOf_75 (by decide) rfl ?_
            refine r_iload_n hX dX2_offsetOf_77 rfl rfl ?_
            refine r_if_lt (tgt := 90) hX dX2_offsetOf_78 (by decide) (fun c41 => ?_) (fun c41 => ?_)
            · refine r_iconst (v := 1) hX dX2_offsetOf_90 (by decide) ?_
              refine r_goto (tgt := 95) hX dX2_offsetOf_91 (by decide) ?_
              refine r_istore hX dX2_offsetOf_95 (by decide) rfl ?_
              refine r_iload_n hX dX2_offsetOf_97 rfl rfl ?_
              refine r_sipush (v := 3600) hX dX2_offsetOf_98 (by decide) ?_
              refine r_imul hX dX2_offsetOf_101 ?_
              refine r_iload_n hX dX2_offsetOf_102 rfl rfl ?_
              refine r_bipush (v := 60) hX dX2_offsetOf_103 (by decide) ?_
              refine r_imul hX dX2_offsetOf_105 ?_
              refine r_iadd hX dX2_offsetOf_106 ?_
              refine r_iload hX dX2_offsetOf_107 rfl ?_
              refine r_iadd hX dX2_offsetOf_109 ?_
              refine r_istore hX dX2_offsetOf_110 (by decide) rfl ?_
              refine r_iload hX dX2_offsetOf_112 rfl ?_
              refine r_if_eq (tgt := 122) hX dX2_offsetOf_114 (by decide) (fun c42 => absurd c42 (by decide)) (fun c42 => ?_)
              refine r_iload hX dX2_offsetOf_117 rfl ?_
              refine r_if_ne (tgt := 137) hX dX2_offsetOf_119 (by decide) (fun c43 => ?_) (fun c43 => absurd (by decide) c43)
              refine r_aload_n hX dX2_offsetOf_137 rfl rfl ?_
              refine r_callV hX (c_X2_refused_x _ _ _ _) kv_X2_56 0 rfl rfl rfl rfl (Nat.le_of_ble_eq_true rfl) ⟨(Nat.le_of_ble_eq_true rfl), (Nat.le_of_ble_eq_true rfl)⟩ ⟨(Nat.le_of_ble_eq_true rfl), (Nat.le_of_ble_eq_true rfl)⟩ dX2_offsetOf_138 (fun _ _ z => False.elim z) (fun v9 ws9 h44 => ?_)
              obtain ⟨rfl, hw9⟩ := h44
              subst ws9
              dsimp only [mPush]
              have ho : f_off p1 p2 p3 = none := by first | exact f_off_n1 (fw18.mp (by first | assumption | exact Classical.not_not.mp (by assumption))) | exact f_off_n2 (fw59.mp (by first | assumption | exact Classical.not_not.mp (by assumption))) | exact f_off_n3 (fw59.mp (by first | assumption | exact Classical.not_not.mp (by assumption))) | exact f_off_n5 (fw64.mp (by first | assumption | exact Classical.not_not.mp (by assumption))) | exact f_off_n4 ⟨by first | exact Or.inl (by first | assumption | exact Int32.not_le.mp (by assumption)) | exact Or.inr (Or.inl (by first | assumption | exact Int32.not_le.mp (by assumption))) | exact Or.inr (Or.inr (by first | assumption | exact Int32.not_le.mp (by assumption))), by first | exact Or.inl (by first | assumption | exact Int32.not_le.mp (by assumption)) | exact Or.inr (Or.inl (by first | assumption | exact Int32.not_le.mp (by assumption))) | exact Or.inr (Or.inr (by first | assumption | exact Int32.not_le.mp (by assumption)))⟩
              exact r_iret hX hE dX2_offsetOf_141 (Nat.le_of_ble_eq_true rfl) (Nat.le_of_ble_eq_true rfl) ⟨i3, (K.1, K.2.1, K.2.2.1, K.2.2.2.1, K.2.2.2.2 + 1), hhi3, rfl, by rw [ho]; rfl, by rw [ho]; rfl, rfl⟩
            · refine r_iload_n hX dX2_offsetOf_81 rfl rfl ?_
              refine r_if_lt (tgt := 90) hX dX2_offsetOf_82 (by decide) (fun c46 => ?_) (fun c46 => ?_)
              · refine r_iconst (v := 1) hX dX2_offsetOf_90 (by decide) ?_
                refine r_goto (tgt := 95) hX dX2_offsetOf_91 (by decide) ?_
                refine r_istore hX dX2_offsetOf_95 (by decide) rfl ?_
                refine r_iload_n hX dX2_offsetOf_97 rfl rfl ?_
                refine r_sipush (v := 3600) hX dX2_offsetOf_98 (by decide) ?_
                refine r_imul hX dX2_offsetOf_101 ?_
                refine r_iload_n hX dX2_offsetOf_102 rfl rfl ?_
                refine r_bipush (v := 60) hX dX2_offsetOf_103 (by decide) ?_
                refine r_imul hX dX2_offsetOf_105 ?_
                refine r_iadd hX dX2_offsetOf_106 ?_
                refine r_iload hX dX2_offsetOf_107 rfl ?_
                refine r_iadd hX dX2_offsetOf_109 ?_
                refine r_istore hX dX2_offsetOf_110 (by decide) rfl ?_
                refine r_iload hX dX2_offsetOf_112 rfl ?_
                refine r_if_eq (tgt := 122) hX dX2_offsetOf_114 (by decide) (fun c47 => absurd c47 (by decide)) (fun c47 => ?_)
                refine r_iload hX dX2_offsetOf_117 rfl ?_
                refine r_if_ne (tgt := 137) hX dX2_offsetOf_119 (by decide) (fun c48 => ?_) (fun c48 => absurd (by decide) c48)
                refine r_aload_n hX dX2_offsetOf_137 rfl rfl ?_
                refine r_callV hX (c_X2_refused_x _ _ _ _) kv_X2_56 0 rfl rfl rfl rfl (Nat.le_of_ble_eq_true rfl) ⟨(Nat.le_of_ble_eq_true rfl), (Nat.le_of_ble_eq_true rfl)⟩ ⟨(Nat.le_of_ble_eq_true rfl), (Nat.le_of_ble_eq_true rfl)⟩ dX2_offsetOf_138 (fun _ _ z => False.elim z) (fun v9 ws9 h49 => ?_)
                obtain ⟨rfl, hw9⟩ := h49
                subst ws9
                dsimp only [mPush]
                have ho : f_off p1 p2 p3 = none := by first | exact f_off_n1 (fw18.mp (by first | assumption | exact Classical.not_not.mp (by assumption))) | exact f_off_n2 (fw59.mp (by first | assumption | exact Classical.not_not.mp (by assumption))) | exact f_off_n3 (fw59.mp (by first | assumption | exact Classical.not_not.mp (by assumption))) | exact f_off_n5 (fw64.mp (by first | assumption | exact Classical.not_not.mp (by assumption))) | exact f_off_n4 ⟨by first | exact Or.inl (by first | assumption | exact Int32.not_le.mp (by assumption)) | exact Or.inr (Or.inl (by first | assumption | exact Int32.not_le.mp (by assumption))) | exact Or.inr (Or.inr (by first | assumption | exact Int32.not_le.mp (by assumption))), by first | exact Or.inl (by first | assumption | exact Int32.not_le.mp (by assumption)) | exact Or.inr (Or.inl (by first | assumption | exact Int32.not_le.mp (by assumption))) | exact Or.inr (Or.inr (by first | assumption | exact Int32.not_le.mp (by assumption)))⟩
                exact r_iret hX hE dX2_offsetOf_141 (Nat.le_of_ble_eq_true rfl) (Nat.le_of_ble_eq_true rfl) ⟨i3, (K.1, K.2.1, K.2.2.1, K.2.2.2.1, K.2.2.2.2 + 1), hhi3, rfl, by rw [ho]; rfl, by rw [ho]; rfl, rfl⟩
              · refine r_iload hX dX2_offsetOf_85 rfl ?_
                refine r_if_ge (tgt := 94) hX dX2_offsetOf_87 (by decide) (fun c51 => ?_) (fun c51 => ?_)
                · refine r_iconst (v := 0) hX dX2_offsetOf_94 (by decide) ?_
                  refine r_istore hX dX2_offsetOf_95 (by decide) rfl ?_
                  refine r_iload_n hX dX2_offsetOf_97 rfl rfl ?_
                  refine r_sipush (v := 3600) hX dX2_offsetOf_98 (by decide) ?_
                  refine r_imul hX dX2_offsetOf_101 ?_
                  refine r_iload_n hX dX2_offsetOf_102 rfl rfl ?_
                  refine r_bipush (v := 60) hX dX2_offsetOf_103 (by decide) ?_
                  refine r_imul hX dX2_offsetOf_105 ?_
                  refine r_iadd hX dX2_offsetOf_106 ?_
                  refine r_iload hX dX2_offsetOf_107 rfl ?_
                  refine r_iadd hX dX2_offsetOf_109 ?_
                  refine r_istore hX dX2_offsetOf_110 (by decide) rfl ?_
                  refine r_iload hX dX2_offsetOf_112 rfl ?_
                  refine r_if_eq (tgt := 122) hX dX2_offsetOf_114 (by decide) (fun c52 => absurd c52 (by decide)) (fun c52 => ?_)
                  refine r_iload hX dX2_offsetOf_117 rfl ?_
                  refine r_if_ne (tgt := 137) hX dX2_offsetOf_119 (by decide) (fun c53 => absurd c53 (by decide)) (fun c53 => ?_)
                  refine r_iload hX dX2_offsetOf_122 rfl ?_
                  refine r_i2l hX dX2_offsetOf_124 ?_
                  refine r_ldc2 hX kc_X2_60 dX2_offsetOf_125 ?_
                  refine r_ldc2 hX kc_X2_62 dX2_offsetOf_128 ?_
                  refine r_callS hX (c_X2_isWithin _ _ _ _ _) ks_X2_48 rfl rfl (Nat.le_of_ble_eq_true rfl) ⟨(Nat.le_of_ble_eq_true rfl), (Nat.le_of_ble_eq_true rfl)⟩ ⟨(Nat.le_of_ble_eq_true rfl), (Nat.le_of_ble_eq_true rfl)⟩ dX2_offsetOf_131 (fun _ _ z => False.elim z) (fun v9 ws9 h54 => ?_)
                  obtain ⟨rfl, hw9⟩ := h54
                  subst ws9
                  dsimp only [mPush]
                  refine r_if_ne (tgt := 142) hX dX2_offsetOf_134 (by decide) (fun c56 => ?_) (fun c56 => ?_)
                  · refine r_aload_n hX dX2_offsetOf_142 rfl rfl ?_
                    refine r_get hX kf_X2_9 0 rfl rfl dX2_offsetOf_143 ?_
                    refine r_iload_n hX dX2_offsetOf_146 rfl rfl ?_
                    refine r_iload hX dX2_offsetOf_147 rfl ?_
                    refine r_iast hX 1 0 rfl rfl (vp_in_nI hhi3 (by decide)) dX2_offsetOf_149 ?_
                    refine r_iload hX dX2_offsetOf_150 rfl ?_
                    have ho : f_off p1 p2 p3 = some (p1 * 3600 + p2 * 60 + p3) := f_off_y (fun q => by first | exact absurd (fw18.mpr q) (by assumption)) (fun q => absurd (fw59.mpr q) (by assumption)) (fun q => absurd (fw59.mpr q) (by assumption)) (by first | exact (fun q => q.1.elim (by first | assumption | exact Int32.not_lt.mpr (by assumption)) (fun q => q.elim (by first | assumption | exact Int32.not_lt.mpr (by assumption)) (by first | assumption | exact Int32.not_lt.mpr (by assumption)))) | exact (fun q => q.2.elim (by first | assumption | exact Int32.not_lt.mpr (by assumption)) (fun q => q.elim (by first | assumption | exact Int32.not_lt.mpr (by assumption)) (by first | assumption | exact Int32.not_lt.mpr (by assumption))))) (fun q => absurd (fw64.mpr q) (by assumption))
                    exact r_iret hX hE dX2_offsetOf_152 (Nat.le_of_ble_eq_true rfl) (Nat.le_of_ble_eq_true rfl) ⟨i3, (upd K.1 i3 _, K.2), hhi3, rfl, by rw [ho]; rfl, by rw [ho]; rfl, by rw [nI_clamp (show i3 < 2 ^ 31 by omega)]; rfl⟩
                  · refine r_aload_n hX dX2_offsetOf_137 rfl rfl ?_
                    refine r_callV hX (c_X2_refused_x _ _ _ _) kv_X2_56 0 rfl rfl rfl rfl (Nat.le_of_ble_eq_true rfl) ⟨(Nat.le_of_ble_eq_true rfl), (Nat.le_of_ble_eq_true rfl)⟩ ⟨(Nat.le_of_ble_eq_true rfl), (Nat.le_of_ble_eq_true rfl)⟩ dX2_offsetOf_138 (fun _ _ z => False.elim z) (fun v9 ws9 h57 => ?_)
                    obtain ⟨rfl, hw9⟩ := h57
                    subst ws9
                    dsimp only [mPush]
                    have ho : f_off p1 p2 p3 = none := by first | exact f_off_n1 (fw18.mp (by first | assumption | exact Classical.not_not.mp (by assumption))) | exact f_off_n2 (fw59.mp (by first | assumption | exact Classical.not_not.mp (by assumption))) | exact f_off_n3 (fw59.mp (by first | assumption | exact Classical.not_not.mp (by assumption))) | exact f_off_n5 (fw64.mp (by first | assumption | exact Classical.not_not.mp (by assumption))) | exact f_off_n4 ⟨by first | exact Or.inl (by first | assumption | exact Int32.not_le.mp (by assumption)) | exact Or.inr (Or.inl (by first | assumption | exact Int32.not_le.mp (by assumption))) | exact Or.inr (Or.inr (by first | assumption | exact Int32.not_le.mp (by assumption))), by first | exact Or.inl (by first | assumption | exact Int32.not_le.mp (by assumption)) | exact Or.inr (Or.inl (by first | assumption | exact Int32.not_le.mp (by assumption))) | exact Or.inr (Or.inr (by first | assumption | exact Int32.not_le.mp (by assumption)))⟩
                    exact r_iret hX hE dX2_offsetOf_141 (Nat.le_of_ble_eq_true rfl) (Nat.le_of_ble_eq_true rfl) ⟨i3, (K.1, K.2.1, K.2.2.1, K.2.2.2.1, K.2.2.2.2 + 1), hhi3, rfl, by rw [ho]; rfl, by rw [ho]; rfl, rfl⟩
                · refine r_iconst (v := 1) hX dX2_offsetOf_90 (by decide) ?_
                  refine r_goto (tgt := 95) hX dX2_offsetOf_91 (by decide) ?_
                  refine r_istore hX dX2_offsetOf_95 (by decide) rfl ?_
                  refine r_iload_n hX dX2_offsetOf_97 rfl rfl ?_
                  refine r_sipush (v := 3600) hX dX2_offsetOf_98 (by decide) ?_
                  refine r_imul hX dX2_offsetOf_101 ?_
                  refine r_iload_n hX dX2_offsetOf_102 rfl rfl ?_
                  refine r_bipush (v := 60) hX dX2_offsetOf_103 (by decide) ?_
                  refine r_imul hX dX2_offsetOf_105 ?_
                  refine r_iadd hX dX2_offsetOf_106 ?_
                  refine r_iload hX dX2_offsetOf_107 rfl ?_
                  refine r_iadd hX dX2_offsetOf_109 ?_
                  refine r_istore hX dX2_offsetOf_110 (by decide) rfl ?_
                  refine r_iload hX dX2_offsetOf_112 rfl ?_
                  refine r_if_eq (tgt := 122) hX dX2_offsetOf_114 (by decide) (fun c59 => absurd c59 (by decide)) (fun c59 => ?_)
                  refine r_iload hX dX2_offsetOf_117 rfl ?_
                  refine r_if_ne (tgt := 137) hX dX2_offsetOf_119 (by decide) (fun c60 => ?_) (fun c60 => absurd (by decide) c60)
                  refine r_aload_n hX dX2_offsetOf_137 rfl rfl ?_
                  refine r_callV hX (c_X2_refused_x _ _ _ _) kv_X2_56 0 rfl rfl rfl rfl (Nat.le_of_ble_eq_true rfl) ⟨(Nat.le_of_ble_eq_true rfl), (Nat.le_of_ble_eq_true rfl)⟩ ⟨(Nat.le_of_ble_eq_true rfl), (Nat.le_of_ble_eq_true rfl)⟩ dX2_offsetOf_138 (fun _ _ z => False.elim z) (fun v9 ws9 h61 => ?_)
                  obtain ⟨rfl, hw9⟩ := h61
                  subst ws9
                  dsimp only [mPush]
                  have ho : f_off p1 p2 p3 = none := by first | exact f_off_n1 (fw18.mp (by first | assumption | exact Classical.not_not.mp (by assumption))) | exact f_off_n2 (fw59.mp (by first | assumption | exact Classical.not_not.mp (by assumption))) | exact f_off_n3 (fw59.mp (by first | assumption | exact Classical.not_not.mp (by assumption))) | exact f_off_n5 (fw64.mp (by first | assumption | exact Classical.not_not.mp (by assumption))) | exact f_off_n4 ⟨by first | exact Or.inl (by first | assumption | exact Int32.not_le.mp (by assumption)) | exact Or.inr (Or.inl (by first | assumption | exact Int32.not_le.mp (by assumption))) | exact Or.inr (Or.inr (by first | assumption | exact Int32.not_le.mp (by assumption))), by first | exact Or.inl (by first | assumption | exact Int32.not_le.mp (by assumption)) | exact Or.inr (Or.inl (by first | assumption | exact Int32.not_le.mp (by assumption))) | exact Or.inr (Or.inr (by first | assumption | exact Int32.not_le.mp (by assumption)))⟩
                  exact r_iret hX hE dX2_offsetOf_141 (Nat.le_of_ble_eq_true rfl) (Nat.le_of_ble_eq_true rfl) ⟨i3, (K.1, K.2.1, K.2.2.1, K.2.2.2.1, K.2.2.2.2 + 1), hhi3, rfl, by rw [ho]; rfl, by rw [ho]; rfl, rfl⟩
          · refine r_iload hX dX2_offsetOf_65 rfl ?_
            refine r_if_le (tgt := 74) hX dX2_offsetOf_67 (by decide) (fun c63 => ?_) (fun c63 => ?_)
            · refine r_iconst (v := 0) hX dX2_offsetOf_74 (by decide) ?_
              refine r_istore hX dX2_offsetOf_75 (by decide) rfl ?_
              refine r_iload_n hX dX2_offsetOf_77 rfl rfl ?_
              refine r_if_lt (tgt := 90) hX dX2_offsetOf_78 (by decide) (fun c64 => ?_) (fun c64 => ?_)
              · refine r_iconst (v := 1) hX dX2_offsetOf_90 (by decide) ?_
                refine r_goto (tgt := 95) hX dX2_offsetOf_91 (by decide) ?_
                refine r_istore hX dX2_offsetOf_95 (by decide) rfl ?_
                refine r_iload_n hX dX2_offsetOf_97 rfl rfl ?_
                refine r_sipush (v := 3600) hX dX2_offsetOf_98 (by decide) ?_
                refine r_imul hX dX2_offsetOf_101 ?_
                refine r_iload_n hX dX2_offsetOf_102 rfl rfl ?_
                refine r_bipush (v := 60) hX dX2_offsetOf_103 (by decide) ?_
                refine r_imul hX dX2_offsetOf_105 ?_
                refine r_iadd hX dX2_offsetOf_106 ?_
                refine r_iload hX dX2_offsetOf_107 rfl ?_
                refine r_iadd hX dX2_offsetOf_109 ?_
                refine r_istore hX dX2_offsetOf_110 (by decide) rfl ?_
                refine r_iload hX dX2_offsetOf_112 rfl ?_
                refine r_if_eq (tgt := 122) hX dX2_offsetOf_114 (by decide) (fun c65 => ?_) (fun c65 => absurd (by decide) c65)
                refine r_iload hX dX2_offsetOf_122 rfl ?_
                refine r_i2l hX dX2_offsetOf_124 ?_
                refine r_ldc2 hX kc_X2_60 dX2_offsetOf_125 ?_
                refine r_ldc2 hX kc_X2_62 dX2_offsetOf_128 ?_
                refine r_callS hX (c_X2_isWithin _ _ _ _ _) ks_X2_48 rfl rfl (Nat.le_of_ble_eq_true rfl) ⟨(Nat.le_of_ble_eq_true rfl), (Nat.le_of_ble_eq_true rfl)⟩ ⟨(Nat.le_of_ble_eq_true rfl), (Nat.le_of_ble_eq_true rfl)⟩ dX2_offsetOf_131 (fun _ _ z => False.elim z) (fun v9 ws9 h66 => ?_)
                obtain ⟨rfl, hw9⟩ := h66
                subst ws9
                dsimp only [mPush]
                refine r_if_ne (tgt := 142) hX dX2_offsetOf_134 (by decide) (fun c68 => ?_) (fun c68 => ?_)
                · refine r_aload_n hX dX2_offsetOf_142 rfl rfl ?_
                  refine r_get hX kf_X2_9 0 rfl rfl dX2_offsetOf_143 ?_
                  refine r_iload_n hX dX2_offsetOf_146 rfl rfl ?_
                  refine r_iload hX dX2_offsetOf_147 rfl ?_
                  refine r_iast hX 1 0 rfl rfl (vp_in_nI hhi3 (by decide)) dX2_offsetOf_149 ?_
                  refine r_iload hX dX2_offsetOf_150 rfl ?_
                  have ho : f_off p1 p2 p3 = some (p1 * 3600 + p2 * 60 + p3) := f_off_y (fun q => by first | exact absurd (fw18.mpr q) (by assumption)) (fun q => absurd (fw59.mpr q) (by assumption)) (fun q => absurd (fw59.mpr q) (by assumption)) (by first | exact (fun q => q.1.elim (by first | assumption | exact Int32.not_lt.mpr (by assumption)) (fun q => q.elim (by first | assumption | exact Int32.not_lt.mpr (by assumption)) (by first | assumption | exact Int32.not_lt.mpr (by assumption)))) | exact (fun q => q.2.elim (by first | assumption | exact Int32.not_lt.mpr (by assumption)) (fun q => q.elim (by first | assumption | exact Int32.not_lt.mpr (by assumption)) (by first | assumption | exact Int32.not_lt.mpr (by assumption))))) (fun q => absurd (fw64.mpr q) (by assumption))
                  exact r_iret hX hE dX2_offsetOf_152 (Nat.le_of_ble_eq_true rfl) (Nat.le_of_ble_eq_true rfl) ⟨i3, (upd K.1 i3 _, K.2), hhi3, rfl, by rw [ho]; rfl, by rw [ho]; rfl, by rw [nI_clamp (show i3 < 2 ^ 31 by omega)]; rfl⟩
                · refine r_aload_n hX dX2_offsetOf_137 rfl rfl ?_
                  refine r_callV hX (c_X2_refused_x _ _ _ _) kv_X2_56 0 rfl rfl rfl rfl (Nat.le_of_ble_eq_true rfl) ⟨(Nat.le_of_ble_eq_true rfl), (Nat.le_of_ble_eq_true rfl)⟩ ⟨(Nat.le_of_ble_eq_true rfl), (Nat.le_of_ble_eq_true rfl)⟩ dX2_offsetOf_138 (fun _ _ z => False.elim z) (fun v9 ws9 h69 => ?_)
                  obtain ⟨rfl, hw9⟩ := h69
                  subst ws9
                  dsimp only [mPush]
                  have ho : f_off p1 p2 p3 = none := by first | exact f_off_n1 (fw18.mp (by first | assumption | exact Classical.not_not.mp (by assumption))) | exact f_off_n2 (fw59.mp (by first | assumption | exact Classical.not_not.mp (by assumption))) | exact f_off_n3 (fw59.mp (by first | assumption | exact Classical.not_not.mp (by assumption))) | exact f_off_n5 (fw64.mp (by first | assumption | exact Classical.not_not.mp (by assumption))) | exact f_off_n4 ⟨by first | exact Or.inl (by first | assumption | exact Int32.not_le.mp (by assumption)) | exact Or.inr (Or.inl (by first | assumption | exact Int32.not_le.mp (by assumption))) | exact Or.inr (Or.inr (by first | assumption | exact Int32.not_le.mp (by assumption))), by first | exact Or.inl (by first | assumption | exact Int32.not_le.mp (by assumption)) | exact Or.inr (Or.inl (by first | assumption | exact Int32.not_le.mp (by assumption))) | exact Or.inr (Or.inr (by first | assumption | exact Int32.not_le.mp (by assumption)))⟩
                  exact r_iret hX hE dX2_offsetOf_141 (Nat.le_of_ble_eq_true rfl) (Nat.le_of_ble_eq_true rfl) ⟨i3, (K.1, K.2.1, K.2.2.1, K.2.2.2.1, K.2.2.2.2 + 1), hhi3, rfl, by rw [ho]; rfl, by rw [ho]; rfl, rfl⟩
              · refine r_iload_n hX dX2_offsetOf_81 rfl rfl ?_
                refine r_if_lt (tgt := 90) hX dX2_offsetOf_82 (by decide) (fun c71 => ?_) (fun c71 => ?_)
                · refine r_iconst (v := 1) hX dX2_offsetOf_90 (by decide) ?_
                  refine r_goto (tgt := 95) hX dX2_offsetOf_91 (by decide) ?_
                  refine r_istore hX dX2_offsetOf_95 (by decide) rfl ?_
                  refine r_iload_n hX dX2_offsetOf_97 rfl rfl ?_
                  refine r_sipush (v := 3600) hX dX2_offsetOf_98 (by decide) ?_
                  refine r_imul hX dX2_offsetOf_101 ?_
                  refine r_iload_n hX dX2_offsetOf_102 rfl rfl ?_
                  refine r_bipush (v := 60) hX dX2_offsetOf_103 (by decide) ?_
                  refine r_imul hX dX2_offsetOf_105 ?_
                  refine r_iadd hX dX2_offsetOf_106 ?_
                  refine r_iload hX dX2_offsetOf_107 rfl ?_
                  refine r_iadd hX dX2_offsetOf_109 ?_
                  refine r_istore hX dX2_offsetOf_110 (by decide) rfl ?_
                  refine r_iload hX dX2_offsetOf_112 rfl ?_
                  refine r_if_eq (tgt := 122) hX dX2_offsetOf_114 (by decide) (fun c72 => ?_) (fun c72 => absurd (by decide) c72)
                  refine r_iload hX dX2_offsetOf_122 rfl ?_
                  refine r_i2l hX dX2_offsetOf_124 ?_
                  refine r_ldc2 hX kc_X2_60 dX2_offsetOf_125 ?_
                  refine r_ldc2 hX kc_X2_62 dX2_offsetOf_128 ?_
                  refine r_callS hX (c_X2_isWithin _ _ _ _ _) ks_X2_48 rfl rfl (Nat.le_of_ble_eq_true rfl) ⟨(Nat.le_of_ble_eq_true rfl), (Nat.le_of_ble_eq_true rfl)⟩ ⟨(Nat.le_of_ble_eq_true rfl), (Nat.le_of_ble_eq_true rfl)⟩ dX2_offsetOf_131 (fun _ _ z => False.elim z) (fun v9 ws9 h73 => ?_)
                  obtain ⟨rfl, hw9⟩ := h73
                  subst ws9
                  dsimp only [mPush]
                  refine r_if_ne (tgt := 142) hX dX2_offsetOf_134 (by decide) (fun c75 => ?_) (fun c75 => ?_)
                  · refine r_aload_n hX dX2_offsetOf_142 rfl rfl ?_
                    refine r_get hX kf_X2_9 0 rfl rfl dX2_offsetOf_143 ?_
                    refine r_iload_n hX dX2_offsetOf_146 rfl rfl ?_
                    refine r_iload hX dX2_offsetOf_147 rfl ?_
                    refine r_iast hX 1 0 rfl rfl (vp_in_nI hhi3 (by decide)) dX2_offsetOf_149 ?_
                    refine r_iload hX dX2_offsetOf_150 rfl ?_
                    have ho : f_off p1 p2 p3 = some (p1 * 3600 + p2 * 60 + p3) := f_off_y (fun q => by first | exact absurd (fw18.mpr q) (by assumption)) (fun q => absurd (fw59.mpr q) (by assumption)) (fun q => absurd (fw59.mpr q) (by assumption)) (by first | exact (fun q => q.1.elim (by first | assumption | exact Int32.not_lt.mpr (by assumption)) (fun q => q.elim (by first | assumption | exact Int32.not_lt.mpr (by assumption)) (by first | assumption | exact Int32.not_lt.mpr (by assumption)))) | exact (fun q => q.2.elim (by first | assumption | exact Int32.not_lt.mpr (by assumption)) (fun q => q.elim (by first | assumption | exact Int32.not_lt.mpr (by assumption)) (by first | assumption | exact Int32.not_lt.mpr (by assumption))))) (fun q => absurd (fw64.mpr q) (by assumption))
                    exact r_iret hX hE dX2_offsetOf_152 (Nat.le_of_ble_eq_true rfl) (Nat.le_of_ble_eq_true rfl) ⟨i3, (upd K.1 i3 _, K.2), hhi3, rfl, by rw [ho]; rfl, by rw [ho]; rfl, by rw [nI_clamp (show i3 < 2 ^ 31 by omega)]; rfl⟩
                  · refine r_aload_n hX dX2_offsetOf_137 rfl rfl ?_
                    refine r_callV hX (c_X2_refused_x _ _ _ _) kv_X2_56 0 rfl rfl rfl rfl (Nat.le_of_ble_eq_true rfl) ⟨(Nat.le_of_ble_eq_true rfl), (Nat.le_of_ble_eq_true rfl)⟩ ⟨(Nat.le_of_ble_eq_true rfl), (Nat.le_of_ble_eq_true rfl)⟩ dX2_offsetOf_138 (fun _ _ z => False.elim z) (fun v9 ws9 h76 => ?_)
                    obtain ⟨rfl, hw9⟩ := h76
                    subst ws9
                    dsimp only [mPush]
                    have ho : f_off p1 p2 p3 = none := by first | exact f_off_n1 (fw18.mp (by first | assumption | exact Classical.not_not.mp (by assumption))) | exact f_off_n2 (fw59.mp (by first | assumption | exact Classical.not_not.mp (by assumption))) | exact f_off_n3 (fw59.mp (by first | assumption | exact Classical.not_not.mp (by assumption))) | exact f_off_n5 (fw64.mp (by first | assumption | exact Classical.not_not.mp (by assumption))) | exact f_off_n4 ⟨by first | exact Or.inl (by first | assumption | exact Int32.not_le.mp (by assumption)) | exact Or.inr (Or.inl (by first | assumption | exact Int32.not_le.mp (by assumption))) | exact Or.inr (Or.inr (by first | assumption | exact Int32.not_le.mp (by assumption))), by first | exact Or.inl (by first | assumption | exact Int32.not_le.mp (by assumption)) | exact Or.inr (Or.inl (by first | assumption | exact Int32.not_le.mp (by assumption))) | exact Or.inr (Or.inr (by first | assumption | exact Int32.not_le.mp (by assumption)))⟩
                    exact r_iret hX hE dX2_offsetOf_141 (Nat.le_of_ble_eq_true rfl) (Nat.le_of_ble_eq_true rfl) ⟨i3, (K.1, K.2.1, K.2.2.1, K.2.2.2.1, K.2.2.2.2 + 1), hhi3, rfl, by rw [ho]; rfl, by rw [ho]; rfl, rfl⟩
                · refine r_iload hX dX2_offsetOf_85 rfl ?_
                  refine r_if_ge (tgt := 94) hX dX2_offsetOf_87 (by decide) (fun c78 => ?_) (fun c78 => ?_)
                  · refine r_iconst (v := 0) hX dX2_offsetOf_94 (by decide) ?_
                    refine r_istore hX dX2_offsetOf_95 (by decide) rfl ?_
                    refine r_iload_n hX dX2_offsetOf_97 rfl rfl ?_
                    refine r_sipush (v := 3600) hX dX2_offsetOf_98 (by decide) ?_
                    refine r_imul hX dX2_offsetOf_101 ?_
                    refine r_iload_n hX dX2_offsetOf_102 rfl rfl ?_
                    refine r_bipush (v := 60) hX dX2_offsetOf_103 (by decide) ?_
                    refine r_imul hX dX2_offsetOf_105 ?_
                    refine r_iadd hX dX2_offsetOf_106 ?_
                    refine r_iload hX dX2_offsetOf_107 rfl ?_
                    refine r_iadd hX dX2_offsetOf_109 ?_
                    refine r_istore hX dX2_offsetOf_110 (by decide) rfl ?_
                    refine r_iload hX dX2_offsetOf_112 rfl ?_
                    refine r_if_eq (tgt := 122) hX dX2_offsetOf_114 (by decide) (fun c79 => ?_) (fun c79 => absurd (by decide) c79)
                    refine r_iload hX dX2_offsetOf_122 rfl ?_
                    refine r_i2l hX dX2_offsetOf_124 ?_
                    refine r_ldc2 hX kc_X2_60 dX2_offsetOf_125 ?_
                    refine r_ldc2 hX kc_X2_62 dX2_offsetOf_128 ?_
                    refine r_callS hX (c_X2_isWithin _ _ _ _ _) ks_X2_48 rfl rfl (Nat.le_of_ble_eq_true rfl) ⟨(Nat.le_of_ble_eq_true rfl), (Nat.le_of_ble_eq_true rfl)⟩ ⟨(Nat.le_of_ble_eq_true rfl), (Nat.le_of_ble_eq_true rfl)⟩ dX2_offsetOf_131 (fun _ _ z => False.elim z) (fun v9 ws9 h80 => ?_)
                    obtain ⟨rfl, hw9⟩ := h80
                    subst ws9
                    dsimp only [mPush]
                    refine r_if_ne (tgt := 142) hX dX2_offsetOf_134 (by decide) (fun c82 => ?_) (fun c82 => ?_)
                    · refine r_aload_n hX dX2_offsetOf_142 rfl rfl ?_
                      refine r_get hX kf_X2_9 0 rfl rfl dX2_offsetOf_143 ?_
                      refine r_iload_n hX dX2_offsetOf_146 rfl rfl ?_
                      refine r_iload hX dX2_offsetOf_147 rfl ?_
                      refine r_iast hX 1 0 rfl rfl (vp_in_nI hhi3 (by decide)) dX2_offsetOf_149 ?_
                      refine r_iload hX dX2_offsetOf_150 rfl ?_
                      have ho : f_off p1 p2 p3 = some (p1 * 3600 + p2 * 60 + p3) := f_off_y (fun q => by first | exact absurd (fw18.mpr q) (by assumption)) (fun q => absurd (fw59.mpr q) (by assumption)) (fun q => absurd (fw59.mpr q) (by assumption)) (by first | exact (fun q => q.1.elim (by first | assumption | exact Int32.not_lt.mpr (by assumption)) (fun q => q.elim (by first | assumption | exact Int32.not_lt.mpr (by assumption)) (by first | assumption | exact Int32.not_lt.mpr (by assumption)))) | exact (fun q => q.2.elim (by first | assumption | exact Int32.not_lt.mpr (by assumption)) (fun q => q.elim (by first | assumption | exact Int32.not_lt.mpr (by assumption)) (by first | assumption | exact Int32.not_lt.mpr (by assumption))))) (fun q => absurd (fw64.mpr q) (by assumption))
                      exact r_iret hX hE dX2_offsetOf_152 (Nat.le_of_ble_eq_true rfl) (Nat.le_of_ble_eq_true rfl) ⟨i3, (upd K.1 i3 _, K.2), hhi3, rfl, by rw [ho]; rfl, by rw [ho]; rfl, by rw [nI_clamp (show i3 < 2 ^ 31 by omega)]; rfl⟩
                    · refine r_aload_n hX dX2_offsetOf_137 rfl rfl ?_
                      refine r_callV hX (c_X2_refused_x _ _ _ _) kv_X2_56 0 rfl rfl rfl rfl (Nat.le_of_ble_eq_true rfl) ⟨(Nat.le_of_ble_eq_true rfl), (Nat.le_of_ble_eq_true rfl)⟩ ⟨(Nat.le_of_ble_eq_true rfl), (Nat.le_of_ble_eq_true rfl)⟩ dX2_offsetOf_138 (fun _ _ z => False.elim z) (fun v9 ws9 h83 => ?_)
                      obtain ⟨rfl, hw9⟩ := h83
                      subst ws9
                      dsimp only [mPush]
                      have ho : f_off p1 p2 p3 = none := by first | exact f_off_n1 (fw18.mp (by first | assumption | exact Classical.not_not.mp (by assumption))) | exact f_off_n2 (fw59.mp (by first | assumption | exact Classical.not_not.mp (by assumption))) | exact f_off_n3 (fw59.mp (by first | assumption | exact Classical.not_not.mp (by assumption))) | exact f_off_n5 (fw64.mp (by first | assumption | exact Classical.not_not.mp (by assumption))) | exact f_off_n4 ⟨by first | exact Or.inl (by first | assumption | exact Int32.not_le.mp (by assumption)) | exact Or.inr (Or.inl (by first | assumption | exact Int32.not_le.mp (by assumption))) | exact Or.inr (Or.inr (by first | assumption | exact Int32.not_le.mp (by assumption))), by first | exact Or.inl (by first | assumption | exact Int32.not_le.mp (by assumption)) | exact Or.inr (Or.inl (by first | assumption | exact Int32.not_le.mp (by assumption))) | exact Or.inr (Or.inr (by first | assumption | exact Int32.not_le.mp (by assumption)))⟩
                      exact r_iret hX hE dX2_offsetOf_141 (Nat.le_of_ble_eq_true rfl) (Nat.le_of_ble_eq_true rfl) ⟨i3, (K.1, K.2.1, K.2.2.1, K.2.2.2.1, K.2.2.2.2 + 1), hhi3, rfl, by rw [ho]; rfl, by rw [ho]; rfl, rfl⟩
                  · refine r_iconst (v := 1) hX dX2_offsetOf_90 (by decide) ?_
                    refine r_goto (tgt := 95) hX dX2_offsetOf_91 (by decide) ?_
                    refine r_istore hX dX2_offsetOf_95 (by decide) rfl ?_
                    refine r_iload_n hX dX2_offsetOf_97 rfl rfl ?_
                    refine r_sipush (v := 3600) hX dX2_offsetOf_98 (by decide) ?_
                    refine r_imul hX dX2_offsetOf_101 ?_
                    refine r_iload_n hX dX2_offsetOf_102 rfl rfl ?_
                    refine r_bipush (v := 60) hX dX2_offsetOf_103 (by decide) ?_
                    refine r_imul hX dX2_offsetOf_105 ?_
                    refine r_iadd hX dX2_offsetOf_106 ?_
                    refine r_iload hX dX2_offsetOf_107 rfl ?_
                    refine r_iadd hX dX2_offsetOf_109 ?_
                    refine r_istore hX dX2_offsetOf_110 (by decide) rfl ?_
                    refine r_iload hX dX2_offsetOf_112 rfl ?_
                    refine r_if_eq (tgt := 122) hX dX2_offsetOf_114 (by decide) (fun c85 => ?_) (fun c85 => absurd (by decide) c85)
                    refine r_iload hX dX2_offsetOf_122 rfl ?_
                    refine r_i2l hX dX2_offsetOf_124 ?_
                    refine r_ldc2 hX kc_X2_60 dX2_offsetOf_125 ?_
                    refine r_ldc2 hX kc_X2_62 dX2_offsetOf_128 ?_
                    refine r_callS hX (c_X2_isWithin _ _ _ _ _) ks_X2_48 rfl rfl (Nat.le_of_ble_eq_true rfl) ⟨(Nat.le_of_ble_eq_true rfl), (Nat.le_of_ble_eq_true rfl)⟩ ⟨(Nat.le_of_ble_eq_true rfl), (Nat.le_of_ble_eq_true rfl)⟩ dX2_offsetOf_131 (fun _ _ z => False.elim z) (fun v9 ws9 h86 => ?_)
                    obtain ⟨rfl, hw9⟩ := h86
                    subst ws9
                    dsimp only [mPush]
                    refine r_if_ne (tgt := 142) hX dX2_offsetOf_134 (by decide) (fun c88 => ?_) (fun c88 => ?_)
                    · refine r_aload_n hX dX2_offsetOf_142 rfl rfl ?_
                      refine r_get hX kf_X2_9 0 rfl rfl dX2_offsetOf_143 ?_
                      refine r_iload_n hX dX2_offsetOf_146 rfl rfl ?_
                      refine r_iload hX dX2_offsetOf_147 rfl ?_
                      refine r_iast hX 1 0 rfl rfl (vp_in_nI hhi3 (by decide)) dX2_offsetOf_149 ?_
                      refine r_iload hX dX2_offsetOf_150 rfl ?_
                      have ho : f_off p1 p2 p3 = some (p1 * 3600 + p2 * 60 + p3) := f_off_y (fun q => by first | exact absurd (fw18.mpr q) (by assumption)) (fun q => absurd (fw59.mpr q) (by assumption)) (fun q => absurd (fw59.mpr q) (by assumption)) (by first | exact (fun q => q.1.elim (by first | assumption | exact Int32.not_lt.mpr (by assumption)) (fun q => q.elim (by first | assumption | exact Int32.not_lt.mpr (by assumption)) (by first | assumption | exact Int32.not_lt.mpr (by assumption)))) | exact (fun q => q.2.elim (by first | assumption | exact Int32.not_lt.mpr (by assumption)) (fun q => q.elim (by first | assumption | exact Int32.not_lt.mpr (by assumption)) (by first | assumption | exact Int32.not_lt.mpr (by assumption))))) (fun q => absurd (fw64.mpr q) (by assumption))
                      exact r_iret hX hE dX2_offsetOf_152 (Nat.le_of_ble_eq_true rfl) (Nat.le_of_ble_eq_true rfl) ⟨i3, (upd K.1 i3 _, K.2), hhi3, rfl, by rw [ho]; rfl, by rw [ho]; rfl, by rw [nI_clamp (show i3 < 2 ^ 31 by omega)]; rfl⟩
                    · refine r_aload_n hX dX2_offsetOf_137 rfl rfl ?_
                      refine r_callV hX (c_X2_refused_x _ _ _ _) kv_X2_56 0 rfl rfl rfl rfl (Nat.le_of_ble_eq_true rfl) ⟨(Nat.le_of_ble_eq_true rfl), (Nat.le_of_ble_eq_true rfl)⟩ ⟨(Nat.le_of_ble_eq_true rfl), (Nat.le_of_ble_eq_true rfl)⟩ dX2_offsetOf_138 (fun _ _ z => False.elim z) (fun v9 ws9 h89 => ?_)
                      obtain ⟨rfl, hw9⟩ := h89
                      subst ws9
                      dsimp only [mPush]
                      have ho : f_off p1 p2 p3 = none := by first | exact f_off_n1 (fw18.mp (by first | assumption | exact Classical.not_not.mp (by assumption))) | exact f_off_n2 (fw59.mp (by first | assumption | exact Classical.not_not.mp (by assumption))) | exact f_off_n3 (fw59.mp (by first | assumption | exact Classical.not_not.mp (by assumption))) | exact f_off_n5 (fw64.mp (by first | assumption | exact Classical.not_not.mp (by assumption))) | exact f_off_n4 ⟨by first | exact Or.inl (by first | assumption | exact Int32.not_le.mp (by assumption)) | exact Or.inr (Or.inl (by first | assumption | exact Int32.not_le.mp (by assumption))) | exact Or.inr (Or.inr (by first | assumption | exact Int32.not_le.mp (by assumption))), by first | exact Or.inl (by first | assumption | exact Int32.not_le.mp (by assumption)) | exact Or.inr (Or.inl (by first | assumption | exact Int32.not_le.mp (by assumption))) | exact Or.inr (Or.inr (by first | assumption | exact Int32.not_le.mp (by assumption)))⟩
                      exact r_iret hX hE dX2_offsetOf_141 (Nat.le_of_ble_eq_true rfl) (Nat.le_of_ble_eq_true rfl) ⟨i3, (K.1, K.2.1, K.2.2.1, K.2.2.2.1, K.2.2.2.2 + 1), hhi3, rfl, by rw [ho]; rfl, by rw [ho]; rfl, rfl⟩
            · refine r_iconst (v := 1) hX dX2_offsetOf_70 (by decide) ?_
              refine r_goto (tgt := 75) hX dX2_offsetOf_71 (by decide) ?_
              refine r_istore hX dX2_offsetOf_75 (by decide) rfl ?_
              refine r_iload_n hX dX2_offsetOf_77 rfl rfl ?_
              refine r_if_lt (tgt := 90) hX dX2_offsetOf_78 (by decide) (fun c91 => ?_) (fun c91 => ?_)
              · refine r_iconst (v := 1) hX dX2_offsetOf_90 (by decide) ?_
                refine r_goto (tgt := 95) hX dX2_offsetOf_91 (by decide) ?_
                refine r_istore hX dX2_offsetOf_95 (by decide) rfl ?_
                refine r_iload_n hX dX2_offsetOf_97 rfl rfl ?_
                refine r_sipush (v := 3600) hX dX2_offsetOf_98 (by decide) ?_
                refine r_imul hX dX2_offsetOf_101 ?_
                refine r_iload_n hX dX2_offsetOf_102 rfl rfl ?_
                refine r_bipush (v := 60) hX dX2_offsetOf_103 (by decide) ?_
                refine r_imul hX dX2_offsetOf_105 ?_
                refine r_iadd hX dX2_offsetOf_106 ?_
                refine r_iload hX dX2_offsetOf_107 rfl ?_
                refine r_iadd hX dX2_offsetOf_109 ?_
                refine r_istore hX dX2_offsetOf_110 (by decide) rfl ?_
                refine r_iload hX dX2_offsetOf_112 rfl ?_
                refine r_if_eq (tgt := 122) hX dX2_offsetOf_114 (by decide) (fun c92 => absurd c92 (by decide)) (fun c92 => ?_)
                refine r_iload hX dX2_offsetOf_117 rfl ?_
                refine r_if_ne (tgt := 137) hX dX2_offsetOf_119 (by decide) (fun c93 => ?_) (fun c93 => absurd (by decide) c93)
                refine r_aload_n hX dX2_offsetOf_137 rfl rfl ?_
                refine r_callV hX (c_X2_refused_x _ _ _ _) kv_X2_56 0 rfl rfl rfl rfl (Nat.le_of_ble_eq_true rfl) ⟨(Nat.le_of_ble_eq_true rfl), (Nat.le_of_ble_eq_true rfl)⟩ ⟨(Nat.le_of_ble_eq_true rfl), (Nat.le_of_ble_eq_true rfl)⟩ dX2_offsetOf_138 (fun _ _ z => False.elim z) (fun v9 ws9 h94 => ?_)
                obtain ⟨rfl, hw9⟩ := h94
                subst ws9
                dsimp only [mPush]
                have ho : f_off p1 p2 p3 = none := by first | exact f_off_n1 (fw18.mp (by first | assumption | exact Classical.not_not.mp (by assumption))) | exact f_off_n2 (fw59.mp (by first | assumption | exact Classical.not_not.mp (by assumption))) | exact f_off_n3 (fw59.mp (by first | assumption | exact Classical.not_not.mp (by assumption))) | exact f_off_n5 (fw64.mp (by first | assumption | exact Classical.not_not.mp (by assumption))) | exact f_off_n4 ⟨by first | exact Or.inl (by first | assumption | exact Int32.not_le.mp (by assumption)) | exact Or.inr (Or.inl (by first | assumption | exact Int32.not_le.mp (by assumption))) | exact Or.inr (Or.inr (by first | assumption | exact Int32.not_le.mp (by assumption))), by first | exact Or.inl (by first | assumption | exact Int32.not_le.mp (by assumption)) | exact Or.inr (Or.inl (by first | assumption | exact Int32.not_le.mp (by assumption))) | exact Or.inr (Or.inr (by first | assumption | exact Int32.not_le.mp (by assumption)))⟩
                exact r_iret hX hE dX2_offsetOf_141 (Nat.le_of_ble_eq_true rfl) (Nat.le_of_ble_eq_true rfl) ⟨i3, (K.1, K.2.1, K.2.2.1, K.2.2.2.1, K.2.2.2.2 + 1), hhi3, rfl, by rw [ho]; rfl, by rw [ho]; rfl, rfl⟩
              · refine r_iload_n hX dX2_offsetOf_81 rfl rfl ?_
                refine r_if_lt (tgt := 90) hX dX2_offsetOf_82 (by decide) (fun c96 => ?_) (fun c96 => ?_)
                · refine r_iconst (v := 1) hX dX2_offsetOf_90 (by decide) ?_
                  refine r_goto (tgt := 95) hX dX2_offsetOf_91 (by decide) ?_
                  refine r_istore hX dX2_offsetOf_95 (by decide) rfl ?_
                  refine r_iload_n hX dX2_offsetOf_97 rfl rfl ?_
                  refine r_sipush (v := 3600) hX dX2_offsetOf_98 (by decide) ?_
                  refine r_imul hX dX2_offsetOf_101 ?_
                  refine r_iload_n hX dX2_offsetOf_102 rfl rfl ?_
                  refine r_bipush (v := 60) hX dX2_offsetOf_103 (by decide) ?_
                  refine r_imul hX dX2_offsetOf_105 ?_
                  refine r_iadd hX dX2_offsetOf_106 ?_
                  refine r_iload hX dX2_offsetOf_107 rfl ?_
                  refine r_iadd hX dX2_offsetOf_109 ?_
                  refine r_istore hX dX2_offsetOf_110 (by decide) rfl ?_
                  refine r_iload hX dX2_offsetOf_112 rfl ?_
                  refine r_if_eq (tgt := 122) hX dX2_offsetOf_114 (by decide) (fun c97 => absurd c97 (by decide)) (fun c97 => ?_)
                  refine r_iload hX dX2_offsetOf_117 rfl ?_
                  refine r_if_ne (tgt := 137) hX dX2_offsetOf_119 (by decide) (fun c98 => ?_) (fun c98 => absurd (by decide) c98)
                  refine r_aload_n hX dX2_offsetOf_137 rfl rfl ?_
                  refine r_callV hX (c_X2_refused_x _ _ _ _) kv_X2_56 0 rfl rfl rfl rfl (Nat.le_of_ble_eq_true rfl) ⟨(Nat.le_of_ble_eq_true rfl), (Nat.le_of_ble_eq_true rfl)⟩ ⟨(Nat.le_of_ble_eq_true rfl), (Nat.le_of_ble_eq_true rfl)⟩ dX2_offsetOf_138 (fun _ _ z => False.elim z) (fun v9 ws9 h99 => ?_)
                  obtain ⟨rfl, hw9⟩ := h99
                  subst ws9
                  dsimp only [mPush]
                  have ho : f_off p1 p2 p3 = none := by first | exact f_off_n1 (fw18.mp (by first | assumption | exact Classical.not_not.mp (by assumption))) | exact f_off_n2 (fw59.mp (by first | assumption | exact Classical.not_not.mp (by assumption))) | exact f_off_n3 (fw59.mp (by first | assumption | exact Classical.not_not.mp (by assumption))) | exact f_off_n5 (fw64.mp (by first | assumption | exact Classical.not_not.mp (by assumption))) | exact f_off_n4 ⟨by first | exact Or.inl (by first | assumption | exact Int32.not_le.mp (by assumption)) | exact Or.inr (Or.inl (by first | assumption | exact Int32.not_le.mp (by assumption))) | exact Or.inr (Or.inr (by first | assumption | exact Int32.not_le.mp (by assumption))), by first | exact Or.inl (by first | assumption | exact Int32.not_le.mp (by assumption)) | exact Or.inr (Or.inl (by first | assumption | exact Int32.not_le.mp (by assumption))) | exact Or.inr (Or.inr (by first | assumption | exact Int32.not_le.mp (by assumption)))⟩
                  exact r_iret hX hE dX2_offsetOf_141 (Nat.le_of_ble_eq_true rfl) (Nat.le_of_ble_eq_true rfl) ⟨i3, (K.1, K.2.1, K.2.2.1, K.2.2.2.1, K.2.2.2.2 + 1), hhi3, rfl, by rw [ho]; rfl, by rw [ho]; rfl, rfl⟩
                · refine r_iload hX dX2_offsetOf_85 rfl ?_
                  refine r_if_ge (tgt := 94) hX dX2_offsetOf_87 (by decide) (fun c101 => ?_) (fun c101 => ?_)
                  · refine r_iconst (v := 0) hX dX2_offsetOf_94 (by decide) ?_
                    refine r_istore hX dX2_offsetOf_95 (by decide) rfl ?_
                    refine r_iload_n hX dX2_offsetOf_97 rfl rfl ?_
                    refine r_sipush (v := 3600) hX dX2_offsetOf_98 (by decide) ?_
                    refine r_imul hX dX2_offsetOf_101 ?_
                    refine r_iload_n hX dX2_offsetOf_102 rfl rfl ?_
                    refine r_bipush (v := 60) hX dX2_offsetOf_103 (by decide) ?_
                    refine r_imul hX dX2_offsetOf_105 ?_
                    refine r_iadd hX dX2_offsetOf_106 ?_
                    refine r_iload hX dX2_offsetOf_107 rfl ?_
                    refine r_iadd hX dX2_offsetOf_109 ?_
                    refine r_istore hX dX2_offsetOf_110 (by decide) rfl ?_
                    refine r_iload hX dX2_offsetOf_112 rfl ?_
                    refine r_if_eq (tgt := 122) hX dX2_offsetOf_114 (by decide) (fun c102 => absurd c102 (by decide)) (fun c102 => ?_)
                    refine r_iload hX dX2_offsetOf_117 rfl ?_
                    refine r_if_ne (tgt := 137) hX dX2_offsetOf_119 (by decide) (fun c103 => absurd c103 (by decide)) (fun c103 => ?_)
                    refine r_iload hX dX2_offsetOf_122 rfl ?_
                    refine r_i2l hX dX2_offsetOf_124 ?_
                    refine r_ldc2 hX kc_X2_60 dX2_offsetOf_125 ?_
                    refine r_ldc2 hX kc_X2_62 dX2_offsetOf_128 ?_
                    refine r_callS hX (c_X2_isWithin _ _ _ _ _) ks_X2_48 rfl rfl (Nat.le_of_ble_eq_true rfl) ⟨(Nat.le_of_ble_eq_true rfl), (Nat.le_of_ble_eq_true rfl)⟩ ⟨(Nat.le_of_ble_eq_true rfl), (Nat.le_of_ble_eq_true rfl)⟩ dX2_offsetOf_131 (fun _ _ z => False.elim z) (fun v9 ws9 h104 => ?_)
                    obtain ⟨rfl, hw9⟩ := h104
                    subst ws9
                    dsimp only [mPush]
                    refine r_if_ne (tgt := 142) hX dX2_offsetOf_134 (by decide) (fun c106 => ?_) (fun c106 => ?_)
                    · refine r_aload_n hX dX2_offsetOf_142 rfl rfl ?_
                      refine r_get hX kf_X2_9 0 rfl rfl dX2_offsetOf_143 ?_
                      refine r_iload_n hX dX2_offsetOf_146 rfl rfl ?_
                      refine r_iload hX dX2_offsetOf_147 rfl ?_
                      refine r_iast hX 1 0 rfl rfl (vp_in_nI hhi3 (by decide)) dX2_offsetOf_149 ?_
                      refine r_iload hX dX2_offsetOf_150 rfl ?_
                      have ho : f_off p1 p2 p3 = some (p1 * 3600 + p2 * 60 + p3) := f_off_y (fun q => by first | exact absurd (fw18.mpr q) (by assumption)) (fun q => absurd (fw59.mpr q) (by assumption)) (fun q => absurd (fw59.mpr q) (by assumption)) (by first | exact (fun q => q.1.elim (by first | assumption | exact Int32.not_lt.mpr (by assumption)) (fun q => q.elim (by first | assumption | exact Int32.not_lt.mpr (by assumption)) (by first | assumption | exact Int32.not_lt.mpr (by assumption)))) | exact (fun q => q.2.elim (by first | assumption | exact Int32.not_lt.mpr (by assumption)) (fun q => q.elim (by first | assumption | exact Int32.not_lt.mpr (by assumption)) (by first | assumption | exact Int32.not_lt.mpr (by assumption))))) (fun q => absurd (fw64.mpr q) (by assumption))
                      exact r_iret hX hE dX2_offsetOf_152 (Nat.le_of_ble_eq_true rfl) (Nat.le_of_ble_eq_true rfl) ⟨i3, (upd K.1 i3 _, K.2), hhi3, rfl, by rw [ho]; rfl, by rw [ho]; rfl, by rw [nI_clamp (show i3 < 2 ^ 31 by omega)]; rfl⟩
                    · refine r_aload_n hX dX2_offsetOf_137 rfl rfl ?_
                      refine r_callV hX (c_X2_refused_x _ _ _ _) kv_X2_56 0 rfl rfl rfl rfl (Nat.le_of_ble_eq_true rfl) ⟨(Nat.le_of_ble_eq_true rfl), (Nat.le_of_ble_eq_true rfl)⟩ ⟨(Nat.le_of_ble_eq_true rfl), (Nat.le_of_ble_eq_true rfl)⟩ dX2_offsetOf_138 (fun _ _ z => False.elim z) (fun v9 ws9 h107 => ?_)
                      obtain ⟨rfl, hw9⟩ := h107
                      subst ws9
                      dsimp only [mPush]
                      have ho : f_off p1 p2 p3 = none := by first | exact f_off_n1 (fw18.mp (by first | assumption | exact Classical.not_not.mp (by assumption))) | exact f_off_n2 (fw59.mp (by first | assumption | exact Classical.not_not.mp (by assumption))) | exact f_off_n3 (fw59.mp (by first | assumption | exact Classical.not_not.mp (by assumption))) | exact f_off_n5 (fw64.mp (by first | assumption | exact Classical.not_not.mp (by assumption))) | exact f_off_n4 ⟨by first | exact Or.inl (by first | assumption | exact Int32.not_le.mp (by assumption)) | exact Or.inr (Or.inl (by first | assumption | exact Int32.not_le.mp (by assumption))) | exact Or.inr (Or.inr (by first | assumption | exact Int32.not_le.mp (by assumption))), by first | exact Or.inl (by first | assumption | exact Int32.not_le.mp (by assumption)) | exact Or.inr (Or.inl (by first | assumption | exact Int32.not_le.mp (by assumption))) | exact Or.inr (Or.inr (by first | assumption | exact Int32.not_le.mp (by assumption)))⟩
                      exact r_iret hX hE dX2_offsetOf_141 (Nat.le_of_ble_eq_true rfl) (Nat.le_of_ble_eq_true rfl) ⟨i3, (K.1, K.2.1, K.2.2.1, K.2.2.2.1, K.2.2.2.2 + 1), hhi3, rfl, by rw [ho]; rfl, by rw [ho]; rfl, rfl⟩
                  · refine r_iconst (v := 1) hX dX2_offsetOf_90 (by decide) ?_
                    refine r_goto (tgt := 95) hX dX2_offsetOf_91 (by decide) ?_
                    refine r_istore hX dX2_offsetOf_95 (by decide) rfl ?_
                    refine r_iload_n hX dX2_offsetOf_97 rfl rfl ?_
                    refine r_sipush (v := 3600) hX dX2_offsetOf_98 (by decide) ?_
                    refine r_imul hX dX2_offsetOf_101 ?_
                    refine r_iload_n hX dX2_offsetOf_102 rfl rfl ?_
                    refine r_bipush (v := 60) hX dX2_offsetOf_103 (by decide) ?_
                    refine r_imul hX dX2_offsetOf_105 ?_
                    refine r_iadd hX dX2_offsetOf_106 ?_
                    refine r_iload hX dX2_offsetOf_107 rfl ?_
                    refine r_iadd hX dX2_offsetOf_109 ?_
                    refine r_istore hX dX2_offsetOf_110 (by decide) rfl ?_
                    refine r_iload hX dX2_offsetOf_112 rfl ?_
                    refine r_if_eq (tgt := 122) hX dX2_offsetOf_114 (by decide) (fun c109 => absurd c109 (by decide)) (fun c109 => ?_)
                    refine r_iload hX dX2_offsetOf_117 rfl ?_
                    refine r_if_ne (tgt := 137) hX dX2_offsetOf_119 (by decide) (fun c110 => ?_) (fun c110 => absurd (by decide) c110)
                    refine r_aload_n hX dX2_offsetOf_137 rfl rfl ?_
                    refine r_callV hX (c_X2_refused_x _ _ _ _) kv_X2_56 0 rfl rfl rfl rfl (Nat.le_of_ble_eq_true rfl) ⟨(Nat.le_of_ble_eq_true rfl), (Nat.le_of_ble_eq_true rfl)⟩ ⟨(Nat.le_of_ble_eq_true rfl), (Nat.le_of_ble_eq_true rfl)⟩ dX2_offsetOf_138 (fun _ _ z => False.elim z) (fun v9 ws9 h111 => ?_)
                    obtain ⟨rfl, hw9⟩ := h111
                    subst ws9
                    dsimp only [mPush]
                    have ho : f_off p1 p2 p3 = none := by first | exact f_off_n1 (fw18.mp (by first | assumption | exact Classical.not_not.mp (by assumption))) | exact f_off_n2 (fw59.mp (by first | assumption | exact Classical.not_not.mp (by assumption))) | exact f_off_n3 (fw59.mp (by first | assumption | exact Classical.not_not.mp (by assumption))) | exact f_off_n5 (fw64.mp (by first | assumption | exact Classical.not_not.mp (by assumption))) | exact f_off_n4 ⟨by first | exact Or.inl (by first | assumption | exact Int32.not_le.mp (by assumption)) | exact Or.inr (Or.inl (by first | assumption | exact Int32.not_le.mp (by assumption))) | exact Or.inr (Or.inr (by first | assumption | exact Int32.not_le.mp (by assumption))), by first | exact Or.inl (by first | assumption | exact Int32.not_le.mp (by assumption)) | exact Or.inr (Or.inl (by first | assumption | exact Int32.not_le.mp (by assumption))) | exact Or.inr (Or.inr (by first | assumption | exact Int32.not_le.mp (by assumption)))⟩
                    exact r_iret hX hE dX2_offsetOf_141 (Nat.le_of_ble_eq_true rfl) (Nat.le_of_ble_eq_true rfl) ⟨i3, (K.1, K.2.1, K.2.2.1, K.2.2.2.1, K.2.2.2.2 + 1), hhi3, rfl, by rw [ho]; rfl, by rw [ho]; rfl, rfl⟩
      · refine r_aload_n hX dX2_offsetOf_52 rfl rfl ?_
        refine r_callV hX (c_X2_refused_x _ _ _ _) kv_X2_56 0 rfl rfl rfl rfl (Nat.le_of_ble_eq_true rfl) ⟨(Nat.le_of_ble_eq_true rfl), (Nat.le_of_ble_eq_true rfl)⟩ ⟨(Nat.le_of_ble_eq_true rfl), (Nat.le_of_ble_eq_true rfl)⟩ dX2_offsetOf_53 (fun _ _ z => False.elim z) (fun v9 ws9 h113 => ?_)
        obtain ⟨rfl, hw9⟩ := h113
        subst ws9
        dsimp only [mPush]
        have ho : f_off p1 p2 p3 = none := by first | exact f_off_n1 (fw18.mp (by first | assumption | exact Classical.not_not.mp (by assumption))) | exact f_off_n2 (fw59.mp (by first | assumption | exact Classical.not_not.mp (by assumption))) | exact f_off_n3 (fw59.mp (by first | assumption | exact Classical.not_not.mp (by assumption))) | exact f_off_n5 (fw64.mp (by first | assumption | exact Classical.not_not.mp (by assumption))) | exact f_off_n4 ⟨by first | exact Or.inl (by first | assumption | exact Int32.not_le.mp (by assumption)) | exact Or.inr (Or.inl (by first | assumption | exact Int32.not_le.mp (by assumption))) | exact Or.inr (Or.inr (by first | assumption | exact Int32.not_le.mp (by assumption))), by first | exact Or.inl (by first | assumption | exact Int32.not_le.mp (by assumption)) | exact Or.inr (Or.inl (by first | assumption | exact Int32.not_le.mp (by assumption))) | exact Or.inr (Or.inr (by first | assumption | exact Int32.not_le.mp (by assumption)))⟩
        exact r_iret hX hE dX2_offsetOf_56 (Nat.le_of_ble_eq_true rfl) (Nat.le_of_ble_eq_true rfl) ⟨i3, (K.1, K.2.1, K.2.2.1, K.2.2.2.1, K.2.2.2.2 + 1), hhi3, rfl, by rw [ho]; rfl, by rw [ho]; rfl, rfl⟩
