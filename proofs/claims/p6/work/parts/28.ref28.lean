/-! The reference, its contracts (rows by a program of this repository). -/
theorem off_stop {p0 r3 b t : Int32} (n : (r3 = 0 ∧ ∃ j, j < 4 ∧ p0 = nI j) ∨ (r3 = 1 ∧ ¬ vp_in p0 4)) (et : t = f_stop r3 b) (hb : ¬ (r3 = 0 ∧ b = 0)) : (¬ vp_in p0 4 ∧ t = 1) ∨ (vp_in p0 4 ∧ ¬ b = 0 ∧ t = 2) := by
  rcases n with ⟨h1, j, hj, h2⟩ | ⟨h1, h2⟩
  · refine Or.inr ⟨by rw [h2]; exact vp_in_nI hj (by decide), fun q => hb ⟨h1, q⟩, ?_⟩
    rw [et, h1]
    have hb0 : ¬ b = 0 := fun q => hb ⟨h1, q⟩
    simp [f_stop, hb0]
  · refine Or.inl ⟨h2, ?_⟩
    rw [et, h1]
    simp [f_stop]
theorem dX4_offset_0 : decode cX4_offset 0 = .ok (.aload_n 0, 1) := by decide +kernel
theorem dX4_offset_1 : decode cX4_offset 1 = .ok (.iload_n 1, 1) := by decide +kernel
theorem dX4_offset_2 : decode cX4_offset 2 = .ok (.invokestatic 61, 3) := by decide +kernel
theorem dX4_offset_5 : decode cX4_offset 5 = .ok (.iload_n 2, 1) := by decide +kernel
theorem dX4_offset_6 : decode cX4_offset 6 = .ok (.i2l, 1) := by decide +kernel
theorem dX4_offset_7 : decode cX4_offset 7 = .ok (.ldc2_w 64, 3) := by decide +kernel
theorem dX4_offset_10 : decode cX4_offset 10 = .ok (.ldc2_w 66, 3) := by decide +kernel
theorem dX4_offset_13 : decode cX4_offset 13 = .ok (.invokestatic 38, 3) := by decide +kernel
theorem dX4_offset_16 : decode cX4_offset 16 = .ok (.ifCond .ne 7, 3) := by decide +kernel
theorem dX4_offset_19 : decode cX4_offset 19 = .ok (.iconst 1, 1) := by decide +kernel
theorem dX4_offset_20 : decode cX4_offset 20 = .ok (.goto 4, 3) := by decide +kernel
theorem dX4_offset_23 : decode cX4_offset 23 = .ok (.iconst 0, 1) := by decide +kernel
theorem dX4_offset_24 : decode cX4_offset 24 = .ok (.invokevirtual 68, 3) := by decide +kernel
theorem dX4_offset_27 : decode cX4_offset 27 = .ok (.ifCond .eq 5, 3) := by decide +kernel
theorem dX4_offset_30 : decode cX4_offset 30 = .ok (.iconst 0, 1) := by decide +kernel
theorem dX4_offset_31 : decode cX4_offset 31 = .ok (.ireturn, 1) := by decide +kernel
theorem dX4_offset_32 : decode cX4_offset 32 = .ok (.aload_n 0, 1) := by decide +kernel
theorem dX4_offset_33 : decode cX4_offset 33 = .ok (.getfield 7, 3) := by decide +kernel
theorem dX4_offset_36 : decode cX4_offset 36 = .ok (.iload_n 1, 1) := by decide +kernel
theorem dX4_offset_37 : decode cX4_offset 37 = .ok (.iaload, 1) := by decide +kernel
theorem dX4_offset_38 : decode cX4_offset 38 = .ok (.istore_n 3, 1) := by decide +kernel
theorem dX4_offset_39 : decode cX4_offset 39 = .ok (.aload_n 0, 1) := by decide +kernel
theorem dX4_offset_40 : decode cX4_offset 40 = .ok (.getfield 7, 3) := by decide +kernel
theorem dX4_offset_43 : decode cX4_offset 43 = .ok (.iload_n 1, 1) := by decide +kernel
theorem dX4_offset_44 : decode cX4_offset 44 = .ok (.iload_n 2, 1) := by decide +kernel
theorem dX4_offset_45 : decode cX4_offset 45 = .ok (.iastore, 1) := by decide +kernel
theorem dX4_offset_46 : decode cX4_offset 46 = .ok (.iload_n 3, 1) := by decide +kernel
theorem dX4_offset_47 : decode cX4_offset 47 = .ok (.ireturn, 1) := by decide +kernel
set_option maxHeartbeats 4000000 in
set_option maxRecDepth 20000 in
theorem c_X4_offset (ad ae : Nat → Nat) (cs : ClassId × ClassId × ClassId) (K : mK) (J : mJ) (rest : va_W) (hJ : mWF J) (p0 : Int32) (p1 : Int32) : mCt (mTy cs) yX4_offset cX4_offset 4 (some .int) ⟨2, 0, 0, 45⟩ [.ref (ae 0), .int p0, .int p1] (mRw ad ae cs K J rest) (fun v ws' => ∃ r J', ((∃ j, j < 4 ∧ p0 = nI j ∧ (-64800 ≤ p1 ∧ p1 ≤ 64800) ∧ J'.1.1 = 0 ∧ r = J.2.1 j ∧ J'.2.1 = upd J.2.1 j p1) ∨ (¬ vp_in p0 4 ∧ J'.1.1 = 1 ∧ J'.2.1 = J.2.1) ∨ (vp_in p0 4 ∧ ¬ (-64800 ≤ p1 ∧ p1 ≤ 64800) ∧ J'.1.1 = 2 ∧ J'.2.1 = J.2.1)) ∧ mWF J' ∧ v = some (.int r) ∧ ws' = mRw ad ae cs K J' rest) mNo := by
  refine mCt.of (by decide +kernel) (Nat.le_of_ble_eq_true rfl) (fun X hX hE => ?_)
  have hX : mOK X RX4 cX4_offset 4 ⟨2, 0, 0, 45⟩ [] (mTy cs) := hX
  refine r_aload_n hX dX4_offset_0 rfl rfl ?_
  refine r_iload_n hX dX4_offset_1 rfl rfl ?_
  refine r_callS hX (c_X4_isNone _ _ _) ks_X4_61 rfl rfl (Nat.le_of_ble_eq_true rfl) ⟨(Nat.le_of_ble_eq_true rfl), (Nat.le_of_ble_eq_true rfl)⟩ ⟨(Nat.le_of_ble_eq_true rfl), (Nat.le_of_ble_eq_true rfl)⟩ dX4_offset_2 (fun _ _ z => False.elim z) (fun v9 ws9 h1 => ?_)
  obtain ⟨r3, nr3, rfl, hw9⟩ := h1
  subst ws9
  dsimp only [mPush]
  refine r_iload_n hX dX4_offset_5 rfl rfl ?_
  refine r_i2l hX dX4_offset_6 ?_
  refine r_ldc2 hX kc_X4_64 dX4_offset_7 ?_
  refine r_ldc2 hX kc_X4_66 dX4_offset_10 ?_
  refine r_callS hX (c_X4_isIn _ _ _ _ _) ks_X4_38 rfl rfl (Nat.le_of_ble_eq_true rfl) ⟨(Nat.le_of_ble_eq_true rfl), (Nat.le_of_ble_eq_true rfl)⟩ ⟨(Nat.le_of_ble_eq_true rfl), (Nat.le_of_ble_eq_true rfl)⟩ dX4_offset_13 (fun _ _ z => False.elim z) (fun v9 ws9 h4 => ?_)
  obtain ⟨rfl, hw9⟩ := h4
  subst ws9
  dsimp only [mPush]
  refine r_if_ne (tgt := 23) hX dX4_offset_16 (by decide) (fun c6 => ?_) (fun c6 => ?_)
  · refine r_iconst (v := 0) hX dX4_offset_23 (by decide) ?_
    refine r_callV hX (c_X4_isStopped _ _ _ _ _ _ _ _) kv_X4_68 14 rfl rfl rfl rfl (Nat.le_of_ble_eq_true rfl) ⟨(Nat.le_of_ble_eq_true rfl), (Nat.le_of_ble_eq_true rfl)⟩ ⟨(Nat.le_of_ble_eq_true rfl), (Nat.le_of_ble_eq_true rfl)⟩ dX4_offset_24 (fun _ _ z => False.elim z) (fun v9 ws9 h7 => ?_)
    obtain ⟨r9, J10, nr9, etJ10, erJ10, eJ10, rfl, hw9⟩ := h7
    subst ws9
    dsimp only [mPush]
    refine r_if_eq (tgt := 32) hX dX4_offset_27 (by decide) (fun c11 => ?_) (fun c11 => ?_)
    · have hs12 := mnone0 nr9 (by first | exact c11 | exact Classical.not_not.mp c11)
      obtain ⟨i13, hhi13, rfl⟩ := mnone0 nr3 hs12.1
      refine r_aload_n hX dX4_offset_32 rfl rfl ?_
      refine r_get hX kf_X4_7 14 rfl rfl dX4_offset_33 ?_
      refine r_iload_n hX dX4_offset_36 rfl rfl ?_
      refine r_iald hX 15 0 rfl rfl (vp_in_nI hhi13 (by decide)) dX4_offset_37 ?_
      refine r_istore_n hX dX4_offset_38 rfl (by decide) rfl ?_
      refine r_aload_n hX dX4_offset_39 rfl rfl ?_
      refine r_get hX kf_X4_7 14 rfl rfl dX4_offset_40 ?_
      refine r_iload_n hX dX4_offset_43 rfl rfl ?_
      refine r_iload_n hX dX4_offset_44 rfl rfl ?_
      refine r_iast hX 15 0 rfl rfl (vp_in_nI hhi13 (by decide)) dX4_offset_45 ?_
      refine r_eqw (ws' := mRw ad ae cs K (J10.1, upd J10.2.1 ((nI i13)).toNatClampNeg p1, J10.2.2.1, J10.2.2.2.1, J10.2.2.2.2.1, J10.2.2.2.2.2.1, J10.2.2.2.2.2.2) rest) rfl ?_
      refine r_iload_n hX dX4_offset_46 rfl rfl ?_
      refine r_iret hX hE dX4_offset_47 (Nat.le_of_ble_eq_true rfl) (Nat.le_of_ble_eq_true rfl) ⟨_, (J10.1, upd J10.2.1 ((nI i13)).toNatClampNeg p1, J10.2.2.1, J10.2.2.2.1, J10.2.2.2.2.1, J10.2.2.2.2.2.1, J10.2.2.2.2.2.2), Or.inl ⟨i13, hhi13, rfl, Classical.not_not.mp (fun q => absurd (fw64.mpr q) (by assumption)), ?_, ?_, ?_⟩, (show mWF J10 from (mWF2 eJ10 hJ)), rfl, rfl⟩
      · exact etJ10.trans (by rw [hs12.1]; rfl)
      · rw [nI_clamp (show i13 < 2 ^ 31 by omega), congrArg Prod.fst eJ10]
      · show upd J10.2.1 (nI i13).toNatClampNeg p1 = _
        rw [nI_clamp (show i13 < 2 ^ 31 by omega), congrArg Prod.fst eJ10]
    · refine r_iconst (v := 0) hX dX4_offset_30 (by decide) ?_
      have hst := off_stop nr3 etJ10 (mnone1 nr9 c11)
      exact r_iret hX hE dX4_offset_31 (Nat.le_of_ble_eq_true rfl) (Nat.le_of_ble_eq_true rfl) ⟨_, J10, Or.inr (hst.elim (fun q => Or.inl ⟨q.1, q.2, ((congrArg Prod.fst eJ10).trans rfl)⟩) (fun q => Or.inr ⟨q.1, (by first | exact fw64.mp (by first | assumption | exact Classical.not_not.mp (by assumption)) | exact absurd rfl q.2.1), q.2.2, ((congrArg Prod.fst eJ10).trans rfl)⟩)), (mWF2 eJ10 hJ), rfl, rfl⟩
  · refine r_iconst (v := 1) hX dX4_offset_19 (by decide) ?_
    refine r_goto (tgt := 24) hX dX4_offset_20 (by decide) ?_
    refine r_callV hX (c_X4_isStopped _ _ _ _ _ _ _ _) kv_X4_68 14 rfl rfl rfl rfl (Nat.le_of_ble_eq_true rfl) ⟨(Nat.le_of_ble_eq_true rfl), (Nat.le_of_ble_eq_true rfl)⟩ ⟨(Nat.le_of_ble_eq_true rfl), (Nat.le_of_ble_eq_true rfl)⟩ dX4_offset_24 (fun _ _ z => False.elim z) (fun v9 ws9 h14 => ?_)
    obtain ⟨r16, J17, nr16, etJ17, erJ17, eJ17, rfl, hw9⟩ := h14
    subst ws9
    dsimp only [mPush]
    refine r_if_eq (tgt := 32) hX dX4_offset_27 (by decide) (fun c18 => ?_) (fun c18 => ?_)
    · have hs19 := mnone0 nr16 (by first | exact c18 | exact Classical.not_not.mp c18)
      exact absurd hs19.2 (by decide)
    · refine r_iconst (v := 0) hX dX4_offset_30 (by decide) ?_
      have hst := off_stop nr3 etJ17 (mnone1 nr16 c18)
      exact r_iret hX hE dX4_offset_31 (Nat.le_of_ble_eq_true rfl) (Nat.le_of_ble_eq_true rfl) ⟨_, J17, Or.inr (hst.elim (fun q => Or.inl ⟨q.1, q.2, ((congrArg Prod.fst eJ17).trans rfl)⟩) (fun q => Or.inr ⟨q.1, (by first | exact fw64.mp (by first | assumption | exact Classical.not_not.mp (by assumption)) | exact absurd rfl q.2.1), q.2.2, ((congrArg Prod.fst eJ17).trans rfl)⟩)), (mWF2 eJ17 hJ), rfl, rfl⟩
theorem dX4_offsetOf_0 : decode cX4_offsetOf 0 = .ok (.aload_n 0, 1) := by decide +kernel
theorem dX4_offsetOf_1 : decode cX4_offsetOf 1 = .ok (.iload_n 1, 1) := by decide +kernel
theorem dX4_offsetOf_2 : decode cX4_offsetOf 2 = .ok (.invokestatic 61, 3) := by decide +kernel
theorem dX4_offsetOf_5 : decode cX4_offsetOf 5 = .ok (.iconst 0, 1) := by decide +kernel
theorem dX4_offsetOf_6 : decode cX4_offsetOf 6 = .ok (.invokevirtual 68, 3) := by decide +kernel
theorem dX4_offsetOf_9 : decode cX4_offsetOf 9 = .ok (.ifCond .eq 5, 3) := by decide +kernel
theorem dX4_offsetOf_12 : decode cX4_offsetOf 12 = .ok (.iconst 0, 1) := by decide +kernel
theorem dX4_offsetOf_13 : decode cX4_offsetOf 13 = .ok (.ireturn, 1) := by decide +kernel
theorem dX4_offsetOf_14 : decode cX4_offsetOf 14 = .ok (.iload_n 2, 1) := by decide +kernel
theorem dX4_offsetOf_15 : decode cX4_offsetOf 15 = .ok (.ifCond .gt 12, 3) := by decide +kernel
theorem dX4_offsetOf_18 : decode cX4_offsetOf 18 = .ok (.iload_n 3, 1) := by decide +kernel
theorem dX4_offsetOf_19 : decode cX4_offsetOf 19 = .ok (.ifCond .gt 8, 3) := by decide +kernel
theorem dX4_offsetOf_22 : decode cX4_offsetOf 22 = .ok (.iload 4, 2) := by decide +kernel
theorem dX4_offsetOf_24 : decode cX4_offsetOf 24 = .ok (.ifCond .le 20, 3) := by decide +kernel
theorem dX4_offsetOf_27 : decode cX4_offsetOf 27 = .ok (.iload_n 2, 1) := by decide +kernel
theorem dX4_offsetOf_28 : decode cX4_offsetOf 28 = .ok (.ifCond .lt 12, 3) := by decide +kernel
theorem dX4_offsetOf_31 : decode cX4_offsetOf 31 = .ok (.iload_n 3, 1) := by decide +kernel
theorem dX4_offsetOf_32 : decode cX4_offsetOf 32 = .ok (.ifCond .lt 8, 3) := by decide +kernel
theorem dX4_offsetOf_35 : decode cX4_offsetOf 35 = .ok (.iload 4, 2) := by decide +kernel
theorem dX4_offsetOf_37 : decode cX4_offsetOf 37 = .ok (.ifCond .ge 7, 3) := by decide +kernel
theorem dX4_offsetOf_40 : decode cX4_offsetOf 40 = .ok (.iconst 1, 1) := by decide +kernel
theorem dX4_offsetOf_41 : decode cX4_offsetOf 41 = .ok (.goto 4, 3) := by decide +kernel
theorem dX4_offsetOf_44 : decode cX4_offsetOf 44 = .ok (.iconst 0, 1) := by decide +kernel
theorem dX4_offsetOf_45 : decode cX4_offsetOf 45 = .ok (.istore 5, 2) := by decide +kernel
theorem dX4_offsetOf_47 : decode cX4_offsetOf 47 = .ok (.iload_n 2, 1) := by decide +kernel
theorem dX4_offsetOf_48 : decode cX4_offsetOf 48 = .ok (.i2l, 1) := by decide +kernel
theorem dX4_offsetOf_49 : decode cX4_offsetOf 49 = .ok (.ldc2_w 72, 3) := by decide +kernel
theorem dX4_offsetOf_52 : decode cX4_offsetOf 52 = .ok (.ldc2_w 74, 3) := by decide +kernel
theorem dX4_offsetOf_55 : decode cX4_offsetOf 55 = .ok (.invokestatic 38, 3) := by decide +kernel
theorem dX4_offsetOf_58 : decode cX4_offsetOf 58 = .ok (.ifCond .eq 37, 3) := by decide +kernel
theorem dX4_offsetOf_61 : decode cX4_offsetOf 61 = .ok (.iload_n 3, 1) := by decide +kernel
theorem dX4_offsetOf_62 : decode cX4_offsetOf 62 = .ok (.i2l, 1) := by decide +kernel
theorem dX4_offsetOf_63 : decode cX4_offsetOf 63 = .ok (.ldc2_w 76, 3) := by decide +kernel
theorem dX4_offsetOf_66 : decode cX4_offsetOf 66 = .ok (.ldc2_w 78, 3) := by decide +kernel
theorem dX4_offsetOf_69 : decode cX4_offsetOf 69 = .ok (.invokestatic 38, 3) := by decide +kernel
theorem dX4_offsetOf_72 : decode cX4_offsetOf 72 = .ok (.ifCond .eq 23, 3) := by decide +kernel
theorem dX4_offsetOf_75 : decode cX4_offsetOf 75 = .ok (.iload 4, 2) := by decide +kernel
theorem dX4_offsetOf_77 : decode cX4_offsetOf 77 = .ok (.i2l, 1) := by decide +kernel
theorem dX4_offsetOf_78 : decode cX4_offsetOf 78 = .ok (.ldc2_w 76, 3) := by decide +kernel
theorem dX4_offsetOf_81 : decode cX4_offsetOf 81 = .ok (.ldc2_w 78, 3) := by decide +kernel
theorem dX4_offsetOf_84 : decode cX4_offsetOf 84 = .ok (.invokestatic 38, 3) := by decide +kernel
theorem dX4_offsetOf_87 : decode cX4_offsetOf 87 = .ok (.ifCond .eq 8, 3) := by decide +kernel
theorem dX4_offsetOf_90 : decode cX4_offsetOf 90 = .ok (.iload 5, 2) := by decide +kernel
theorem dX4_offsetOf_92 : decode cX4_offsetOf 92 = .ok (.ifCond .eq 8, 3) := by decide +kernel
theorem dX4_offsetOf_95 : decode cX4_offsetOf 95 = .ok (.aload_n 0, 1) := by decide +kernel
theorem dX4_offsetOf_96 : decode cX4_offsetOf 96 = .ok (.invokevirtual 80, 3) := by decide +kernel
theorem dX4_offsetOf_99 : decode cX4_offsetOf 99 = .ok (.ireturn, 1) := by decide +kernel
theorem dX4_offsetOf_100 : decode cX4_offsetOf 100 = .ok (.sipush 3600, 3) := by decide +kernel
theorem dX4_offsetOf_103 : decode cX4_offsetOf 103 = .ok (.iload_n 2, 1) := by decide +kernel
theorem dX4_offsetOf_104 : decode cX4_offsetOf 104 = .ok (.imul, 1) := by decide +kernel
theorem dX4_offsetOf_105 : decode cX4_offsetOf 105 = .ok (.bipush 60, 2) := by decide +kernel
theorem dX4_offsetOf_107 : decode cX4_offsetOf 107 = .ok (.iload_n 3, 1) := by decide +kernel
theorem dX4_offsetOf_108 : decode cX4_offsetOf 108 = .ok (.imul, 1) := by decide +kernel
theorem dX4_offsetOf_109 : decode cX4_offsetOf 109 = .ok (.iadd, 1) := by decide +kernel
theorem dX4_offsetOf_110 : decode cX4_offsetOf 110 = .ok (.iload 4, 2) := by decide +kernel
theorem dX4_offsetOf_112 : decode cX4_offsetOf 112 = .ok (.iadd, 1) := by decide +kernel
theorem dX4_offsetOf_113 : decode cX4_offsetOf 113 = .ok (.istore 6, 2) := by decide +kernel
theorem dX4_offsetOf_115 : decode cX4_offsetOf 115 = .ok (.iload 6, 2) := by decide +kernel
theorem dX4_offsetOf_117 : decode cX4_offsetOf 117 = .ok (.i2l, 1) := by decide +kernel
theorem dX4_offsetOf_118 : decode cX4_offsetOf 118 = .ok (.ldc2_w 64, 3) := by decide +kernel
theorem dX4_offsetOf_121 : decode cX4_offsetOf 121 = .ok (.ldc2_w 66, 3) := by decide +kernel
theorem dX4_offsetOf_124 : decode cX4_offsetOf 124 = .ok (.invokestatic 38, 3) := by decide +kernel
theorem dX4_offsetOf_127 : decode cX4_offsetOf 127 = .ok (.ifCond .ne 8, 3) := by decide +kernel
theorem dX4_offsetOf_130 : decode cX4_offsetOf 130 = .ok (.aload_n 0, 1) := by decide +kernel
theorem dX4_offsetOf_131 : decode cX4_offsetOf 131 = .ok (.invokevirtual 80, 3) := by decide +kernel
theorem dX4_offsetOf_134 : decode cX4_offsetOf 134 = .ok (.ireturn, 1) := by decide +kernel
theorem dX4_offsetOf_135 : decode cX4_offsetOf 135 = .ok (.aload_n 0, 1) := by decide +kernel
theorem dX4_offsetOf_136 : decode cX4_offsetOf 136 = .ok (.getfield 7, 3) := by decide +kernel
theorem dX4_offsetOf_139 : decode cX4_offsetOf 139 = .ok (.iload_n 1, 1) := by decide +kernel
theorem dX4_offsetOf_140 : decode cX4_offsetOf 140 = .ok (.iload 6, 2) := by decide +kernel
theorem dX4_offsetOf_142 : decode cX4_offsetOf 142 = .ok (.iastore, 1) := by decide +kernel
theorem dX4_offsetOf_143 : decode cX4_offsetOf 143 = .ok (.iload 6, 2) := by decide +kernel
theorem dX4_offsetOf_145 : decode cX4_offsetOf 145 = .ok (.ireturn, 1) := by decide +kernel
set_option maxHeartbeats 4000000 in
set_option maxRecDepth 20000 in
theorem c_X4_offsetOf (ad ae : Nat → Nat) (cs : ClassId × ClassId × ClassId) (K : mK) (J : mJ) (rest : va_W) (hJ : mWF J) (p0 : Int32) (p1 : Int32) (p2 : Int32) (p3 : Int32) : mCt (mTy cs) yX4_offsetOf cX4_offsetOf 7 (some .int) ⟨2, 0, 0, 45⟩ [.ref (ae 0), .int p0, .int p1, .int p2, .int p3] (mRw ad ae cs K J rest) (fun v ws' => ∃ r J', ((∃ j, j < 4 ∧ p0 = nI j ∧ J'.1.1 = 0 ∧ J'.2.1 = f_offS J.2.1 j (f_off p1 p2 p3) ∧ r = (f_off p1 p2 p3).getD (-9)) ∨ (¬ vp_in p0 4 ∧ J'.1.1 = 1 ∧ J'.2.1 = J.2.1)) ∧ mWF J' ∧ v = some (.int r) ∧ ws' = mRw ad ae cs K J' rest) mNo := by
  refine mCt.of (by decide +kernel) (Nat.le_of_ble_eq_true rfl) (fun X hX hE => ?_)
  have hX : mOK X RX4 cX4_offsetOf 7 ⟨2, 0, 0, 45⟩ [] (mTy cs) := hX
  refine r_aload_n hX dX4_offsetOf_0 rfl rfl ?_
  refine r_iload_n hX dX4_offsetOf_1 rfl rfl ?_
  refine r_callS hX (c_X4_isNone _ _ _) ks_X4_61 rfl rfl (Nat.le_of_ble_eq_true rfl) ⟨(Nat.le_of_ble_eq_true rfl), (Nat.le_of_ble_eq_true rfl)⟩ ⟨(Nat.le_of_ble_eq_true rfl), (Nat.le_of_ble_eq_true rfl)⟩ dX4_offsetOf_2 (fun _ _ z => False.elim z) (fun v9 ws9 h1 => ?_)
  obtain ⟨r3, nr3, rfl, hw9⟩ := h1
  subst ws9
  dsimp only [mPush]
  refine r_iconst (v := 0) hX dX4_offsetOf_5 (by decide) ?_
  refine r_callV hX (c_X4_isStopped _ _ _ _ _ _ _ _) kv_X4_68 14 rfl rfl rfl rfl (Nat.le_of_ble_eq_true rfl) ⟨(Nat.le_of_ble_eq_true rfl), (Nat.le_of_ble_eq_true rfl)⟩ ⟨(Nat.le_of_ble_eq_true rfl), (Nat.le_of_ble_eq_true rfl)⟩ dX4_offsetOf_6 (fun _ _ z => False.elim z) (fun v9 ws9 h4 => ?_)
  obtain ⟨r6, J7, nr6, etJ7, erJ7, eJ7, rfl, hw9⟩ := h4
  subst ws9
  dsimp only [mPush]
  refine r_if_eq (tgt := 14) hX dX4_offsetOf_9 (by decide) (fun c8 => ?_) (fun c8 => ?_)
  · have hs9 := mnone0 nr6 (by first | exact c8 | exact Classical.not_not.mp c8)
    obtain ⟨i10, hhi10, rfl⟩ := mnone0 nr3 hs9.1
    refine r_iload_n hX dX4_offsetOf_14 rfl rfl ?_
    refine r_if_gt (tgt := 27) hX dX4_offsetOf_15 (by decide) (fun c11 => ?_) (fun c11 => ?_)
    · refine r_iload_n hX dX4_offsetOf_27 rfl rfl ?_
      refine r_if_lt (tgt := 40) hX dX4_offsetOf_28 (by decide) (fun c12 => ?_) (fun c12 => ?_)
      · refine r_iconst (v := 1) hX dX4_offsetOf_40 (by decide) ?_
        refine r_goto (tgt := 45) hX dX4_offsetOf_41 (by decide) ?_
        refine r_istore hX dX4_offsetOf_45 (by decide) rfl ?_
        refine r_iload_n hX dX4_offsetOf_47 rfl rfl ?_
        refine r_i2l hX dX4_offsetOf_48 ?_
        refine r_ldc2 hX kc_X4_72 dX4_offsetOf_49 ?_
        refine r_ldc2 hX kc_X4_74 dX4_offsetOf_52 ?_
        refine r_callS hX (c_X4_isIn _ _ _ _ _) ks_X4_38 rfl rfl (Nat.le_of_ble_eq_true rfl) ⟨(Nat.le_of_ble_eq_true rfl), (Nat.le_of_ble_eq_true rfl)⟩ ⟨(Nat.le_of_ble_eq_true rfl), (Nat.le_of_ble_eq_true rfl)⟩ dX4_offsetOf_55 (fun _ _ z => False.elim z) (fun v9 ws9 h13 => ?_)
        obtain ⟨rfl, hw9⟩ := h13
        subst ws9
        dsimp only [mPush]
        refine r_if_eq (tgt := 95) hX dX4_offsetOf_58 (by decide) (fun c15 => ?_) (fun c15 => ?_)
        · refine r_aload_n hX dX4_offsetOf_95 rfl rfl ?_
          refine r_callV hX (c_X4_no _ _ _ _ _ _) kv_X4_80 14 rfl rfl rfl rfl (Nat.le_of_ble_eq_true rfl) ⟨(Nat.le_of_ble_eq_true rfl), (Nat.le_of_ble_eq_true rfl)⟩ ⟨(Nat.le_of_ble_eq_true rfl), (Nat.le_of_ble_eq_true rfl)⟩ dX4_offsetOf_96 (fun _ _ z => False.elim z) (fun v9 ws9 h16 => ?_)
          obtain ⟨J18, etJ18, eJ18, rfl, hw9⟩ := h16
          subst ws9
          dsimp only [mPush]
          have ho : f_off p1 p2 p3 = none := by first | exact f_off_n1 (fw18.mp (by first | assumption | exact Classical.not_not.mp (by assumption))) | exact f_off_n2 (fw59.mp (by first | assumption | exact Classical.not_not.mp (by assumption))) | exact f_off_n3 (fw59.mp (by first | assumption | exact Classical.not_not.mp (by assumption))) | exact f_off_n5 (fw64.mp (by first | assumption | exact Classical.not_not.mp (by assumption))) | exact f_off_n4 ⟨by first | exact Or.inl (by first | assumption | exact Int32.not_le.mp (by assumption)) | exact Or.inr (Or.inl (by first | assumption | exact Int32.not_le.mp (by assumption))) | exact Or.inr (Or.inr (by first | assumption | exact Int32.not_le.mp (by assumption))), by first | exact Or.inl (by first | assumption | exact Int32.not_le.mp (by assumption)) | exact Or.inr (Or.inl (by first | assumption | exact Int32.not_le.mp (by assumption))) | exact Or.inr (Or.inr (by first | assumption | exact Int32.not_le.mp (by assumption)))⟩
          refine r_iret hX hE dX4_offsetOf_99 (Nat.le_of_ble_eq_true rfl) (Nat.le_of_ble_eq_true rfl) ⟨_, J18, Or.inl ⟨i10, hhi10, rfl, ?_, ?_, ?_⟩, (mWF2 eJ18 (mWF2 eJ7 hJ)), rfl, rfl⟩
          · rw [etJ18]; exact etJ7.trans (by rw [hs9.1]; rfl)
          · rw [ho]; exact ((congrArg Prod.fst eJ18).trans ((congrArg Prod.fst eJ7).trans rfl))
          · rw [ho]; rfl
        · refine r_iload_n hX dX4_offsetOf_61 rfl rfl ?_
          refine r_i2l hX dX4_offsetOf_62 ?_
          refine r_ldc2 hX kc_X4_76 dX4_offsetOf_63 ?_
          refine r_ldc2 hX kc_X4_78 dX4_offsetOf_66 ?_
          refine r_callS hX (c_X4_isIn _ _ _ _ _) ks_X4_38 rfl rfl (Nat.le_of_ble_eq_true rfl) ⟨(Nat.le_of_ble_eq_true rfl), (Nat.le_of_ble_eq_true rfl)⟩ ⟨(Nat.le_of_ble_eq_true rfl), (Nat.le_of_ble_eq_true rfl)⟩ dX4_offsetOf_69 (fun _ _ z => False.elim z) (fun v9 ws9 h19 => ?_)
          obtain ⟨rfl, hw9⟩ := h19
          subst ws9
          dsimp only [mPush]
          refine r_if_eq (tgt := 95) hX dX4_offsetOf_72 (by decide) (fun c21 => ?_) (fun c21 => ?_)
          · refine r_aload_n hX dX4_offsetOf_95 rfl rfl ?_
            refine r_callV hX (c_X4_no _ _ _ _ _ _) kv_X4_80 14 rfl rfl rfl rfl (Nat.le_of_ble_eq_true rfl) ⟨(Nat.le_of_ble_eq_true rfl), (Nat.le_of_ble_eq_true rfl)⟩ ⟨(Nat.le_of_ble_eq_true rfl), (Nat.le_of_ble_eq_true rfl)⟩ dX4_offsetOf_96 (fun _ _ z => False.elim z) (fun v9 ws9 h22 => ?_)
            obtain ⟨J24, etJ24, eJ24, rfl, hw9⟩ := h22
            subst ws9
            dsimp only [mPush]
            have ho : f_off p1 p2 p3 = none := by first | exact f_off_n1 (fw18.mp (by first | assumption | exact Classical.not_not.mp (by assumption))) | exact f_off_n2 (fw59.mp (by first | assumption | exact Classical.not_not.mp (by assumption))) | exact f_off_n3 (fw59.mp (by first | assumption | exact Classical.not_not.mp (by assumption))) | exact f_off_n5 (fw64.mp (by first | assumption | exact Classical.not_not.mp (by assumption))) | exact f_off_n4 ⟨by first | exact Or.inl (by first | assumption | exact Int32.not_le.mp (by assumption)) | exact Or.inr (Or.inl (by first | assumption | exact Int32.not_le.mp (by assumption))) | exact Or.inr (Or.inr (by first | assumption | exact Int32.not_le.mp (by assumption))), by first | exact Or.inl (by first | assumption | exact Int32.not_le.mp (by assumption)) | exact Or.inr (Or.inl (by first | assumption | exact Int32.not_le.mp (by assumption))) | exact Or.inr (Or.inr (by first | assumption | exact Int32.not_le.mp (by assumption)))⟩
            refine r_iret hX hE dX4_offsetOf_99 (Nat.le_of_ble_eq_true rfl) (Nat.le_of_ble_eq_true rfl) ⟨_, J24, Or.inl ⟨i10, hhi10, rfl, ?_, ?_, ?_⟩, (mWF2 eJ24 (mWF2 eJ7 hJ)), rfl, rfl⟩
            · rw [etJ24]; exact etJ7.trans (by rw [hs9.1]; rfl)
            · rw [ho]; exact ((congrArg Prod.fst eJ24).trans ((congrArg Prod.fst eJ7).trans rfl))
            · rw [ho]; rfl
          · refine r_iload hX dX4_offsetOf_75 rfl ?_
            refine r_i2l hX dX4_offsetOf_77 ?_
            refine r_ldc2 hX kc_X4_76 dX4_offsetOf_78 ?_
            refine r_ldc2 hX kc_X4_78 dX4_offsetOf_81 ?_
            refine r_callS hX (c_X4_isIn _ _ _ _ _) ks_X4_38 rfl rfl (Nat.le_of_ble_eq_true rfl) ⟨(Nat.le_of_ble_eq_true rfl), (Nat.le_of_ble_eq_true rfl)⟩ ⟨(Nat.le_of_ble_eq_true rfl), (Nat.le_of_ble_eq_true rfl)⟩ dX4_offsetOf_84 (fun _ _ z => False.elim z) (fun v9 ws9 h25 => ?_)
            obtain ⟨rfl, hw9⟩ := h25
            subst ws9
            dsimp only [mPush]
            refine r_if_eq (tgt := 95) hX dX4_offsetOf_87 (by decide) (fun c27 => ?_) (fun c27 => ?_)
            · refine r_aload_n hX dX4_offsetOf_95 rfl rfl ?_
              refine r_callV hX (c_X4_no _ _ _ _ _ _) kv_X4_80 14 rfl rfl rfl rfl (Nat.le_of_ble_eq_true rfl) ⟨(Nat.le_of_ble_eq_true rfl), (Nat.le_of_ble_eq_true rfl)⟩ ⟨(Nat.le_of_ble_eq_true rfl), (Nat.le_of_ble_eq_true rfl)⟩ dX4_offsetOf_96 (fun _ _ z => False.elim z) (fun v9 ws9 h28 => ?_)
              obtain ⟨J30, etJ30, eJ30, rfl, hw9⟩ := h28
              subst ws9
              dsimp only [mPush]
              have ho : f_off p1 p2 p3 = none := by first | exact f_off_n1 (fw18.mp (by first | assumption | exact Classical.not_not.mp (by assumption))) | exact f_off_n2 (fw59.mp (by first | assumption | exact Classical.not_not.mp (by assumption))) | exact f_off_n3 (fw59.mp (by first | assumption | exact Classical.not_not.mp (by assumption))) | exact f_off_n5 (fw64.mp (by first | assumption | exact Classical.not_not.mp (by assumption))) | exact f_off_n4 ⟨by first | exact Or.inl (by first | assumption | exact Int32.not_le.mp (by assumption)) | exact Or.inr (Or.inl (by first | assumption | exact Int32.not_le.mp (by assumption))) | exact Or.inr (Or.inr (by first | assumption | exact Int32.not_le.mp (by assumption))), by first | exact Or.inl (by first | assumption | exact Int32.not_le.mp (by assumption)) | exact Or.inr (Or.inl (by first | assumption | exact Int32.not_le.mp (by assumption))) | exact Or.inr (Or.inr (by first | assumption | exact Int32.not_le.mp (by assumption)))⟩
              refine r_iret hX hE dX4_offsetOf_99 (Nat.le_of_ble_eq_true rfl) (Nat.le_of_ble_eq_true rfl) ⟨_, J30, Or.inl ⟨i10, hhi10, rfl, ?_, ?_, ?_⟩, (mWF2 eJ30 (mWF2 eJ7 hJ)), rfl, rfl⟩
              · rw [etJ30]; exact etJ7.trans (by rw [hs9.1]; rfl)
              · rw [ho]; exact ((congrArg Prod.fst eJ30).trans ((congrArg Prod.fst eJ7).trans rfl))
              · rw [ho]; rfl
            · refine r_iload hX dX4_offsetOf_90 rfl ?_
              refine r_if_eq (tgt := 100) hX dX4_offsetOf_92 (by decide) (fun c31 => absurd c31 (by decide)) (fun c31 => ?_)
              refine r_aload_n hX dX4_offsetOf_95 rfl rfl ?_
              refine r_callV hX (c_X4_no _ _ _ _ _ _) kv_X4_80 14 rfl rfl rfl rfl (Nat.le_of_ble_eq_true rfl) ⟨(Nat.le_of_ble_eq_true rfl), (Nat.le_of_ble_eq_true rfl)⟩ ⟨(Nat.le_of_ble_eq_true rfl), (Nat.le_of_ble_eq_true rfl)⟩ dX4_offsetOf_96 (fun _ _ z => False.elim z) (fun v9 ws9 h32 => ?_)
              obtain ⟨J34, etJ34, eJ34, rfl, hw9⟩ := h32
              subst ws9
              dsimp only [mPush]
              have ho : f_off p1 p2 p3 = none := by first | exact f_off_n1 (fw18.mp (by first | assumption | exact Classical.not_not.mp (by assumption))) | exact f_off_n2 (fw59.mp (by first | assumption | exact Classical.not_not.mp (by assumption))) | exact f_off_n3 (fw59.mp (by first | assumption | exact Classical.not_not.mp (by assumption))) | exact f_off_n5 (fw64.mp (by first | assumption | exact Classical.not_not.mp (by assumption))) | exact f_off_n4 ⟨by first | exact Or.inl (by first | assumption | exact Int32.not_le.mp (by assumption)) | exact Or.inr (Or.inl (by first | assumption | exact Int32.not_le.mp (by assumption))) | exact Or.inr (Or.inr (by first | assumption | exact Int32.not_le.mp (by assumption))), by first | exact Or.inl (by first | assumption | exact Int32.not_le.mp (by assumption)) | exact Or.inr (Or.inl (by first | assumption | exact Int32.not_le.mp (by assumption))) | exact Or.inr (Or.inr (by first | assumption | exact Int32.not_le.mp (by assumption)))⟩
              refine r_iret hX hE dX4_offsetOf_99 (Nat.le_of_ble_eq_true rfl) (Nat.le_of_ble_eq_true rfl) ⟨_, J34, Or.inl ⟨i10, hhi10, rfl, ?_, ?_, ?_⟩, (mWF2 eJ34 (mWF2 eJ7 hJ)), rfl, rfl⟩
              · rw [etJ34]; exact etJ7.trans (by rw [hs9.1]; rfl)
              · rw [ho]; exact ((congrArg Prod.fst eJ34).trans ((congrArg Prod.fst eJ7).trans rfl))
              · rw [ho]; rfl
      · refine r_iload_n hX dX4_offsetOf_31 rfl rfl ?_
        refine r_if_lt (tgt := 40) hX dX4_offsetOf_32 (by decide) (fun c35 => ?_) (fun c35 => ?_)
        · refine r_iconst (v := 1) hX dX4_offsetOf_40 (by decide) ?_
          refine r_goto (tgt := 45) hX dX4_offsetOf_41 (by decide) ?_
          refine r_istore hX dX4_offsetOf_45 (by decide) rfl ?_
          refine r_iload_n hX dX4_offsetOf_47 rfl rfl ?_
          refine r_i2l hX dX4_offsetOf_48 ?_
          refine r_ldc2 hX kc_X4_72 dX4_offsetOf_49 ?_
          refine r_ldc2 hX kc_X4_74 dX4_offsetOf_52 ?_
          refine r_callS hX (c_X4_isIn _ _ _ _ _) ks_X4_38 rfl rfl (Nat.le_of_ble_eq_true rfl) ⟨(Nat.le_of_ble_eq_true rfl), (Nat.le_of_ble_eq_true rfl)⟩ ⟨(Nat.le_of_ble_eq_true rfl), (Nat.le_of_ble_eq_true rfl)⟩ dX4_offsetOf_55 (fun _ _ z => False.elim z) (fun v9 ws9 h36 => ?_)
          obtain ⟨rfl, hw9⟩ := h36
          subst ws9
          dsimp only [mPush]
          refine r_if_eq (tgt := 95) hX dX4_offsetOf_58 (by decide) (fun c38 => ?_) (fun c38 => ?_)
          · refine r_aload_n hX dX4_offsetOf_95 rfl rfl ?_
            refine r_callV hX (c_X4_no _ _ _ _ _ _) kv_X4_80 14 rfl rfl rfl rfl (Nat.le_of_ble_eq_true rfl) ⟨(Nat.le_of_ble_eq_true rfl), (Nat.le_of_ble_eq_true rfl)⟩ ⟨(Nat.le_of_ble_eq_true rfl), (Nat.le_of_ble_eq_true rfl)⟩ dX4_offsetOf_96 (fun _ _ z => False.elim z) (fun v9 ws9 h39 => ?_)
            obtain ⟨J41, etJ41, eJ41, rfl, hw9⟩ := h39
            subst ws9
            dsimp only [mPush]
            have ho : f_off p1 p2 p3 = none := by first | exact f_off_n1 (fw18.mp (by first | assumption | exact Classical.not_not.mp (by assumption))) | exact f_off_n2 (fw59.mp (by first | assumption | exact Classical.not_not.mp (by assumption))) | exact f_off_n3 (fw59.mp (by first | assumption | exact Classical.not_not.mp (by assumption))) | exact f_off_n5 (fw64.mp (by first | assumption | exact Classical.not_not.mp (by assumption))) | exact f_off_n4 ⟨by first | exact Or.inl (by first | assumption | exact Int32.not_le.mp (by assumption)) | exact Or.inr (Or.inl (by first | assumption | exact Int32.not_le.mp (by assumption))) | exact Or.inr (Or.inr (by first | assumption | exact Int32.not_le.mp (by assumption))), by first | exact Or.inl (by first | assumption | exact Int32.not_le.mp (by assumption)) | exact Or.inr (Or.inl (by first | assumption | exact Int32.not_le.mp (by assumption))) | exact Or.inr (Or.inr (by first | assumption | exact Int32.not_le.mp (by assumption)))⟩
            refine r_iret hX hE dX4_offsetOf_99 (Nat.le_of_ble_eq_true rfl) (Nat.le_of_ble_eq_true rfl) ⟨_, J41, Or.inl ⟨i10, hhi10, rfl, ?_, ?_, ?_⟩, (mWF2 eJ41 (mWF2 eJ7 hJ)), rfl, rfl⟩
            · rw [etJ41]; exact etJ7.trans (by rw [hs9.1]; rfl)
            · rw [ho]; exact ((congrArg Prod.fst eJ41).trans ((congrArg Prod.fst eJ7).trans rfl))
            · rw [ho]; rfl
          · refine r_iload_n hX dX4_offsetOf_61 rfl rfl ?_
            refine r_i2l hX dX4_offsetOf_62 ?_
            refine r_ldc2 hX kc_X4_76 dX4_offsetOf_63 ?_
            refine r_ldc2 hX kc_X4_78 dX4_offsetOf_66 ?_
            refine r_callS hX (c_X4_isIn _ _ _ _ _) ks_X4_38 rfl rfl (Nat.le_of_ble_eq_true rfl) ⟨(Nat.le_of_ble_eq_true rfl), (Nat.le_of_ble_eq_true rfl)⟩ ⟨(Nat.le_of_ble_eq_true rfl), (Nat.le_of_ble_eq_true rfl)⟩ dX4_offsetOf_69 (fun _ _ z => False.elim z) (fun v9 ws9 h42 => ?_)
            obtain ⟨rfl, hw9⟩ := h42
            subst ws9
            dsimp only [mPush]
            refine r_if_eq (tgt := 95) hX dX4_offsetOf_72 (by decide) (fun c44 => ?_) (fun c44 => ?_)
            · refine r_aload_n hX dX4_offsetOf_95 rfl rfl ?_
              refine r_callV hX (c_X4_no _ _ _ _ _ _) kv_X4_80 14 rfl rfl rfl rfl (Nat.le_of_ble_eq_true rfl) ⟨(Nat.le_of_ble_eq_true rfl), (Nat.le_of_ble_eq_true rfl)⟩ ⟨(Nat.le_of_ble_eq_true rfl), (Nat.le_of_ble_eq_true rfl)⟩ dX4_offsetOf_96 (fun _ _ z => False.elim z) (fun v9 ws9 h45 => ?_)
              obtain ⟨J47, etJ47, eJ47, rfl, hw9⟩ := h45
              subst ws9
              dsimp only [mPush]
              have ho : f_off p1 p2 p3 = none := by first | exact f_off_n1 (fw18.mp (by first | assumption | exact Classical.not_not.mp (by assumption))) | exact f_off_n2 (fw59.mp (by first | assumption | exact Classical.not_not.mp (by assumption))) | exact f_off_n3 (fw59.mp (by first | assumption | exact Classical.not_not.mp (by assumption))) | exact f_off_n5 (fw64.mp (by first | assumption | exact Classical.not_not.mp (by assumption))) | exact f_off_n4 ⟨by first | exact Or.inl (by first | assumption | exact Int32.not_le.mp (by assumption)) | exact Or.inr (Or.inl (by first | assumption | exact Int32.not_le.mp (by assumption))) | exact Or.inr (Or.inr (by first | assumption | exact Int32.not_le.mp (by assumption))), by first | exact Or.inl (by first | assumption | exact Int32.not_le.mp (by assumption)) | exact Or.inr (Or.inl (by first | assumption | exact Int32.not_le.mp (by assumption))) | exact Or.inr (Or.inr (by first | assumption | exact Int32.not_le.mp (by assumption)))⟩
              refine r_iret hX hE dX4_offsetOf_99 (Nat.le_of_ble_eq_true rfl) (Nat.le_of_ble_eq_true rfl) ⟨_, J47, Or.inl ⟨i10, hhi10, rfl, ?_, ?_, ?_⟩, (mWF2 eJ47 (mWF2 eJ7 hJ)), rfl, rfl⟩
              · rw [etJ47]; exact etJ7.trans (by rw [hs9.1]; rfl)
              · rw [ho]; exact ((congrArg Prod.fst eJ47).trans ((congrArg Prod.fst eJ7).trans rfl))
              · rw [ho]; rfl
            · refine r_iload hX dX4_offsetOf_75 rfl ?_
              refine r_i2l hX dX4_offsetOf_77 ?_
              refine r_ldc2 hX kc_X4_76 dX4_offsetOf_78 ?_
              refine r_ldc2 hX kc_X4_78 dX4_offsetOf_81 ?_
              refine r_callS hX (c_X4_isIn _ _ _ _ _) ks_X4_38 rfl rfl (Nat.le_of_ble_eq_true rfl) ⟨(Nat.le_of_ble_eq_true rfl), (Nat.le_of_ble_eq_true rfl)⟩ ⟨(Nat.le_of_ble_eq_true rfl), (Nat.le_of_ble_eq_true rfl)⟩ dX4_offsetOf_84 (fun _ _ z => False.elim z) (fun v9 ws9 h48 => ?_)
              obtain ⟨rfl, hw9⟩ := h48
              subst ws9
              dsimp only [mPush]
              refine r_if_eq (tgt := 95) hX dX4_offsetOf_87 (by decide) (fun c50 => ?_) (fun c50 => ?_)
              · refine r_aload_n hX dX4_offsetOf_95 rfl rfl ?_
                refine r_callV hX (c_X4_no _ _ _ _ _ _) kv_X4_80 14 rfl rfl rfl rfl (Nat.le_of_ble_eq_true rfl) ⟨(Nat.le_of_ble_eq_true rfl), (Nat.le_of_ble_eq_true rfl)⟩ ⟨(Nat.le_of_ble_eq_true rfl), (Nat.le_of_ble_eq_true rfl)⟩ dX4_offsetOf_96 (fun _ _ z => False.elim z) (fun v9 ws9 h51 => ?_)
                obtain ⟨J53, etJ53, eJ53, rfl, hw9⟩ := h51
                subst ws9
                dsimp only [mPush]
                have ho : f_off p1 p2 p3 = none := by first | exact f_off_n1 (fw18.mp (by first | assumption | exact Classical.not_not.mp (by assumption))) | exact f_off_n2 (fw59.mp (by first | assumption | exact Classical.not_not.mp (by assumption))) | exact f_off_n3 (fw59.mp (by first | assumption | exact Classical.not_not.mp (by assumption))) | exact f_off_n5 (fw64.mp (by first | assumption | exact Classical.not_not.mp (by assumption))) | exact f_off_n4 ⟨by first | exact Or.inl (by first | assumption | exact Int32.not_le.mp (by assumption)) | exact Or.inr (Or.inl (by first | assumption | exact Int32.not_le.mp (by assumption))) | exact Or.inr (Or.inr (by first | assumption | exact Int32.not_le.mp (by assumption))), by first | exact Or.inl (by first | assumption | exact Int32.not_le.mp (by assumption)) | exact Or.inr (Or.inl (by first | assumption | exact Int32.not_le.mp (by assumption))) | exact Or.inr (Or.inr (by first | assumption | exact Int32.not_le.mp (by assumption)))⟩
                refine r_iret hX hE dX4_offsetOf_99 (Nat.le_of_ble_eq_true rfl) (Nat.le_of_ble_eq_true rfl) ⟨_, J53, Or.inl ⟨i10, hhi10, rfl, ?_, ?_, ?_⟩, (mWF2 eJ53 (mWF2 eJ7 hJ)), rfl, rfl⟩
                · rw [etJ53]; exact etJ7.trans (by rw [hs9.1]; rfl)
                · rw [ho]; exact ((congrArg Prod.fst eJ53).trans ((congrArg Prod.fst eJ7).trans rfl))
                · rw [ho]; rfl
              · refine r_iload hX dX4_offsetOf_90 rfl ?_
                refine r_if_eq (tgt := 100) hX dX4_offsetOf_92 (by decide) (fun c54 => absurd c54 (by decide)) (fun c54 => ?_)
                refine r_aload_n hX dX4_offsetOf_95 rfl rfl ?_
                refine r_callV hX (c_X4_no _ _ _ _ _ _) kv_X4_80 14 rfl rfl rfl rfl (Nat.le_of_ble_eq_true rfl) ⟨(Nat.le_of_ble_eq_true rfl), (Nat.le_of_ble_eq_true rfl)⟩ ⟨(Nat.le_of_ble_eq_true rfl), (Nat.le_of_ble_eq_true rfl)⟩ dX4_offsetOf_96 (fun _ _ z => False.elim z) (fun v9 ws9 h55 => ?_)
                obtain ⟨J57, etJ57, eJ57, rfl, hw9⟩ := h55
                subst ws9
                dsimp only [mPush]
                have ho : f_off p1 p2 p3 = none := by first | exact f_off_n1 (fw18.mp (by first | assumption | exact Classical.not_not.mp (by assumption))) | exact f_off_n2 (fw59.mp (by first | assumption | exact Classical.not_not.mp (by assumption))) | exact f_off_n3 (fw59.mp (by first | assumption | exact Classical.not_not.mp (by assumption))) | exact f_off_n5 (fw64.mp (by first | assumption | exact Classical.not_not.mp (by assumption))) | exact f_off_n4 ⟨by first | exact Or.inl (by first | assumption | exact Int32.not_le.mp (by assumption)) | exact Or.inr (Or.inl (by first | assumption | exact Int32.not_le.mp (by assumption))) | exact Or.inr (Or.inr (by first | assumption | exact Int32.not_le.mp (by assumption))), by first | exact Or.inl (by first | assumption | exact Int32.not_le.mp (by assumption)) | exact Or.inr (Or.inl (by first | assumption | exact Int32.not_le.mp (by assumption))) | exact Or.inr (Or.inr (by first | assumption | exact Int32.not_le.mp (by assumption)))⟩
                refine r_iret hX hE dX4_offsetOf_99 (Nat.le_of_ble_eq_true rfl) (Nat.le_of_ble_eq_true rfl) ⟨_, J57, Or.inl ⟨i10, hhi10, rfl, ?_, ?_, ?_⟩, (mWF2 eJ57 (mWF2 eJ7 hJ)), rfl, rfl⟩
                · rw [etJ57]; exact etJ7.trans (by rw [hs9.1]; rfl)
                · rw [ho]; exact ((congrArg Prod.fst eJ57).trans ((congrArg Prod.fst eJ7).trans rfl))
                · rw [ho]; rfl
        · refine r_iload hX dX4_offsetOf_35 rfl ?_
          refine r_if_ge (tgt := 44) hX dX4_offsetOf_37 (by decide) (fun c58 => ?_) (fun c58 => ?_)
          · refine r_iconst (v := 0) hX dX4_offsetOf_44 (by decide) ?_
            refine r_istore hX dX4_offsetOf_45 (by decide) rfl ?_
            refine r_iload_n hX dX4_offsetOf_47 rfl rfl ?_
            refine r_i2l hX dX4_offsetOf_48 ?_
            refine r_ldc2 hX kc_X4_72 dX4_offsetOf_49 ?_
            refine r_ldc2 hX kc_X4_74 dX4_offsetOf_52 ?_
            refine r_callS hX (c_X4_isIn _ _ _ _ _) ks_X4_38 rfl rfl (Nat.le_of_ble_eq_true rfl) ⟨(Nat.le_of_ble_eq_true rfl), (Nat.le_of_ble_eq_true rfl)⟩ ⟨(Nat.le_of_ble_eq_true rfl), (Nat.le_of_ble_eq_true rfl)⟩ dX4_offsetOf_55 (fun _ _ z => False.elim z) (fun v9 ws9 h59 => ?_)
            obtain ⟨rfl, hw9⟩ := h59
            subst ws9
            dsimp only [mPush]
            refine r_if_eq (tgt := 95) hX dX4_offsetOf_58 (by decide) (fun c61 => ?_) (fun c61 => ?_)
            · refine r_aload_n hX dX4_offsetOf_95 rfl rfl ?_
              refine r_callV hX (c_X4_no _ _ _ _ _ _) kv_X4_80 14 rfl rfl rfl rfl (Nat.le_of_ble_eq_true rfl) ⟨(Nat.le_of_ble_eq_true rfl), (Nat.le_of_ble_eq_true rfl)⟩ ⟨(Nat.le_of_ble_eq_true rfl), (Nat.le_of_ble_eq_true rfl)⟩ dX4_offsetOf_96 (fun _ _ z => False.elim z) (fun v9 ws9 h62 => ?_)
              obtain ⟨J64, etJ64, eJ64, rfl, hw9⟩ := h62
              subst ws9
              dsimp only [mPush]
              have ho : f_off p1 p2 p3 = none := by first | exact f_off_n1 (fw18.mp (by first | assumption | exact Classical.not_not.mp (by assumption))) | exact f_off_n2 (fw59.mp (by first | assumption | exact Classical.not_not.mp (by assumption))) | exact f_off_n3 (fw59.mp (by first | assumption | exact Classical.not_not.mp (by assumption))) | exact f_off_n5 (fw64.mp (by first | assumption | exact Classical.not_not.mp (by assumption))) | exact f_off_n4 ⟨by first | exact Or.inl (by first | assumption | exact Int32.not_le.mp (by assumption)) | exact Or.inr (Or.inl (by first | assumption | exact Int32.not_le.mp (by assumption))) | exact Or.inr (Or.inr (by first | assumption | exact Int32.not_le.mp (by assumption))), by first | exact Or.inl (by first | assumption | exact Int32.not_le.mp (by assumption)) | exact Or.inr (Or.inl (by first | assumption | exact Int32.not_le.mp (by assumption))) | exact Or.inr (Or.inr (by first | assumption | exact Int32.not_le.mp (by assumption)))⟩
              refine r_iret hX hE dX4_offsetOf_99 (Nat.le_of_ble_eq_true rfl) (Nat.le_of_ble_eq_true rfl) ⟨_, J64, Or.inl ⟨i10, hhi10, rfl, ?_, ?_, ?_⟩, (mWF2 eJ64 (mWF2 eJ7 hJ)), rfl, rfl⟩
              · rw [etJ64]; exact etJ7.trans (by rw [hs9.1]; rfl)
              · rw [ho]; exact ((congrArg Prod.fst eJ64).trans ((congrArg Prod.fst eJ7).trans rfl))
              · rw [ho]; rfl
            · refine r_iload_n hX dX4_offsetOf_61 rfl rfl ?_
              refine r_i2l hX dX4_offsetOf_62 ?_
              refine r_ldc2 hX kc_X4_76 dX4_offsetOf_63 ?_
              refine r_ldc2 hX kc_X4_78 dX4_offsetOf_66 ?_
              refine r_callS hX (c_X4_isIn _ _ _ _ _) ks_X4_38 rfl rfl (Nat.le_of_ble_eq_true rfl) ⟨(Nat.le_of_ble_eq_true rfl), (Nat.le_of_ble_eq_true rfl)⟩ ⟨(Nat.le_of_ble_eq_true rfl), (Nat.le_of_ble_eq_true rfl)⟩ dX4_offsetOf_69 (fun _ _ z => False.elim z) (fun v9 ws9 h65 => ?_)
              obtain ⟨rfl, hw9⟩ := h65
              subst ws9
              dsimp only [mPush]
              refine r_if_eq (tgt := 95) hX dX4_offsetOf_72 (by decide) (fun c67 => ?_) (fun c67 => ?_)
              · refine r_aload_n hX dX4_offsetOf_95 rfl rfl ?_
                refine r_callV hX (c_X4_no _ _ _ _ _ _) kv_X4_80 14 rfl rfl rfl rfl (Nat.le_of_ble_eq_true rfl) ⟨(Nat.le_of_ble_eq_true rfl), (Nat.le_of_ble_eq_true rfl)⟩ ⟨(Nat.le_of_ble_eq_true rfl), (Nat.le_of_ble_eq_true rfl)⟩ dX4_offsetOf_96 (fun _ _ z => False.elim z) (fun v9 ws9 h68 => ?_)
                obtain ⟨J70, etJ70, eJ70, rfl, hw9⟩ := h68
                subst ws9
                dsimp only [mPush]
                have ho : f_off p1 p2 p3 = none := by first | exact f_off_n1 (fw18.mp (by first | assumption | exact Classical.not_not.mp (by assumption))) | exact f_off_n2 (fw59.mp (by first | assumption | exact Classical.not_not.mp (by assumption))) | exact f_off_n3 (fw59.mp (by first | assumption | exact Classical.not_not.mp (by assumption))) | exact f_off_n5 (fw64.mp (by first | assumption | exact Classical.not_not.mp (by assumption))) | exact f_off_n4 ⟨by first | exact Or.inl (by first | assumption | exact Int32.not_le.mp (by assumption)) | exact Or.inr (Or.inl (by first | assumption | exact Int32.not_le.mp (by assumption))) | exact Or.inr (Or.inr (by first | assumption | exact Int32.not_le.mp (by assumption))), by first | exact Or.inl (by first | assumption | exact Int32.not_le.mp (by assumption)) | exact Or.inr (Or.inl (by first | assumption | exact Int32.not_le.mp (by assumption))) | exact Or.inr (Or.inr (by first | assumption | exact Int32.not_le.mp (by assumption)))⟩
                refine r_iret hX hE dX4_offsetOf_99 (Nat.le_of_ble_eq_true rfl) (Nat.le_of_ble_eq_true rfl) ⟨_, J70, Or.inl ⟨i10, hhi10, rfl, ?_, ?_, ?_⟩, (mWF2 eJ70 (mWF2 eJ7 hJ)), rfl, rfl⟩
                · rw [etJ70]; exact etJ7.trans (by rw [hs9.1]; rfl)
                · rw [ho]; exact ((congrArg Prod.fst eJ70).trans ((congrArg Prod.fst eJ7).trans rfl))
                · rw [ho]; rfl
              · refine r_iload hX dX4_offsetOf_75 rfl ?_
                refine r_i2l hX dX4_offsetOf_77 ?_
                refine r_ldc2 hX kc_X4_76 dX4_offsetOf_78 ?_
                refine r_ldc2 hX kc_X4_78 dX4_offsetOf_81 ?_
                refine r_callS hX (c_X4_isIn _ _ _ _ _) ks_X4_38 rfl rfl (Nat.le_of_ble_eq_true rfl) ⟨(Nat.le_of_ble_eq_true rfl), (Nat.le_of_ble_eq_true rfl)⟩ ⟨(Nat.le_of_ble_eq_true rfl), (Nat.le_of_ble_eq_true rfl)⟩ dX4_offsetOf_84 (fun _ _ z => False.elim z) (fun v9 ws9 h71 => ?_)
                obtain ⟨rfl, hw9⟩ := h71
                subst ws9
                dsimp only [mPush]
                refine r_if_eq (tgt := 95) hX dX4_offsetOf_87 (by decide) (fun c73 => ?_) (fun c73 => ?_)
                · refine r_aload_n hX dX4_offsetOf_95 rfl rfl ?_
                  refine r_callV hX (c_X4_no _ _ _ _ _ _) kv_X4_80 14 rfl rfl rfl rfl (Nat.le_of_ble_eq_true rfl) ⟨(Nat.le_of_ble_eq_true rfl), (Nat.le_of_ble_eq_true rfl)⟩ ⟨(Nat.le_of_ble_eq_true rfl), (Nat.le_of_ble_eq_true rfl)⟩ dX4_offsetOf_96 (fun _ _ z => False.elim z) (fun v9 ws9 h74 => ?_)
                  obtain ⟨J76, etJ76, eJ76, rfl, hw9⟩ := h74
                  subst ws9
                  dsimp only [mPush]
                  have ho : f_off p1 p2 p3 = none := by first | exact f_off_n1 (fw18.mp (by first | assumption | exact Classical.not_not.mp (by assumption))) | exact f_off_n2 (fw59.mp (by first | assumption | exact Classical.not_not.mp (by assumption))) | exact f_off_n3 (fw59.mp (by first | assumption | exact Classical.not_not.mp (by assumption))) | exact f_off_n5 (fw64.mp (by first | assumption | exact Classical.not_not.mp (by assumption))) | exact f_off_n4 ⟨by first | exact Or.inl (by first | assumption | exact Int32.not_le.mp (by assumption)) | exact Or.inr (Or.inl (by first | assumption | exact Int32.not_le.mp (by assumption))) | exact Or.inr (Or.inr (by first | assumption | exact Int32.not_le.mp (by assumption))), by first | exact Or.inl (by first | assumption | exact Int32.not_le.mp (by assumption)) | exact Or.inr (Or.inl (by first | assumption | exact Int32.not_le.mp (by assumption))) | exact Or.inr (Or.inr (by first | assumption | exact Int32.not_le.mp (by assumption)))⟩
                  refine r_iret hX hE dX4_offsetOf_99 (Nat.le_of_ble_eq_true rfl) (Nat.le_of_ble_eq_true rfl) ⟨_, J76, Or.inl ⟨i10, hhi10, rfl, ?_, ?_, ?_⟩, (mWF2 eJ76 (mWF2 eJ7 hJ)), rfl, rfl⟩
                  · rw [etJ76]; exact etJ7.trans (by rw [hs9.1]; rfl)
                  · rw [ho]; exact ((congrArg Prod.fst eJ76).trans ((congrArg Prod.fst eJ7).trans rfl))
                  · rw [ho]; rfl
                · refine r_iload hX dX4_offsetOf_90 rfl ?_
                  refine r_if_eq (tgt := 100) hX dX4_offsetOf_92 (by decide) (fun c77 => ?_) (fun c77 => absurd (by decide) c77)
                  refine r_sipush (v := 3600) hX dX4_offsetOf_100 (by decide) ?_
                  refine r_iload_n hX dX4_offsetOf_103 rfl rfl ?_
                  refine r_imul hX dX4_offsetOf_104 ?_
                  refine r_bipush (v := 60) hX dX4_offsetOf_105 (by decide) ?_
                  refine r_iload_n hX dX4_offsetOf_107 rfl rfl ?_
                  refine r_imul hX dX4_offsetOf_108 ?_
                  refine r_iadd hX dX4_offsetOf_109 ?_
                  refine r_iload hX dX4_offsetOf_110 rfl ?_
                  refine r_iadd hX dX4_offsetOf_112 ?_
                  rw [Int32.mul_comm 3600 p1, Int32.mul_comm 60 p2]
                  refine r_istore hX dX4_offsetOf_113 (by decide) rfl ?_
                  refine r_iload hX dX4_offsetOf_115 rfl ?_
                  refine r_i2l hX dX4_offsetOf_117 ?_
                  refine r_ldc2 hX kc_X4_64 dX4_offsetOf_118 ?_
                  refine r_ldc2 hX kc_X4_66 dX4_offsetOf_121 ?_
                  refine r_callS hX (c_X4_isIn _ _ _ _ _) ks_X4_38 rfl rfl (Nat.le_of_ble_eq_true rfl) ⟨(Nat.le_of_ble_eq_true rfl), (Nat.le_of_ble_eq_true rfl)⟩ ⟨(Nat.le_of_ble_eq_true rfl), (Nat.le_of_ble_eq_true rfl)⟩ dX4_offsetOf_124 (fun _ _ z => False.elim z) (fun v9 ws9 h78 => ?_)
                  obtain ⟨rfl, hw9⟩ := h78
                  subst ws9
                  dsimp only [mPush]
                  refine r_if_ne (tgt := 135) hX dX4_offsetOf_127 (by decide) (fun c80 => ?_) (fun c80 => ?_)
                  · refine r_aload_n hX dX4_offsetOf_135 rfl rfl ?_
                    refine r_get hX kf_X4_7 14 rfl rfl dX4_offsetOf_136 ?_
                    refine r_iload_n hX dX4_offsetOf_139 rfl rfl ?_
                    refine r_iload hX dX4_offsetOf_140 rfl ?_
                    refine r_iast hX 15 0 rfl rfl (vp_in_nI hhi10 (by decide)) dX4_offsetOf_142 ?_
                    refine r_eqw (ws' := mRw ad ae cs K (J7.1, upd J7.2.1 ((nI i10)).toNatClampNeg _, J7.2.2.1, J7.2.2.2.1, J7.2.2.2.2.1, J7.2.2.2.2.2.1, J7.2.2.2.2.2.2) rest) rfl ?_
                    refine r_iload hX dX4_offsetOf_143 rfl ?_
                    have ho : f_off p1 p2 p3 = some (p1 * 3600 + p2 * 60 + p3) := f_off_y (fun q => absurd (fw18.mpr q) (by assumption)) (fun q => absurd (fw59.mpr q) (by assumption)) (fun q => absurd (fw59.mpr q) (by assumption)) (by first | exact (fun q => q.1.elim (by first | assumption | exact Int32.not_lt.mpr (by assumption)) (fun q => q.elim (by first | assumption | exact Int32.not_lt.mpr (by assumption)) (by first | assumption | exact Int32.not_lt.mpr (by assumption)))) | exact (fun q => q.2.elim (by first | assumption | exact Int32.not_lt.mpr (by assumption)) (fun q => q.elim (by first | assumption | exact Int32.not_lt.mpr (by assumption)) (by first | assumption | exact Int32.not_lt.mpr (by assumption))))) (fun q => absurd (fw64.mpr q) (by assumption))
                    refine r_iret hX hE dX4_offsetOf_145 (Nat.le_of_ble_eq_true rfl) (Nat.le_of_ble_eq_true rfl) ⟨_, (J7.1, upd J7.2.1 ((nI i10)).toNatClampNeg _, J7.2.2.1, J7.2.2.2.1, J7.2.2.2.2.1, J7.2.2.2.2.2.1, J7.2.2.2.2.2.2), Or.inl ⟨i10, hhi10, rfl, ?_, ?_, ?_⟩, (show mWF J7 from (mWF2 eJ7 hJ)), rfl, rfl⟩
                    · exact etJ7.trans (by rw [hs9.1]; rfl)
                    · rw [ho]
                      show upd J7.2.1 (nI i10).toNatClampNeg _ = _
                      rw [nI_clamp (show i10 < 2 ^ 31 by omega), congrArg Prod.fst eJ7]; rfl
                    · rw [ho]; rfl
                  · refine r_aload_n hX dX4_offsetOf_130 rfl rfl ?_
                    refine r_callV hX (c_X4_no _ _ _ _ _ _) kv_X4_80 14 rfl rfl rfl rfl (Nat.le_of_ble_eq_true rfl) ⟨(Nat.le_of_ble_eq_true rfl), (Nat.le_of_ble_eq_true rfl)⟩ ⟨(Nat.le_of_ble_eq_true rfl), (Nat.le_of_ble_eq_true rfl)⟩ dX4_offsetOf_131 (fun _ _ z => False.elim z) (fun v9 ws9 h81 => ?_)
                    obtain ⟨J83, etJ83, eJ83, rfl, hw9⟩ := h81
                    subst ws9
                    dsimp only [mPush]
                    have ho : f_off p1 p2 p3 = none := by first | exact f_off_n1 (fw18.mp (by first | assumption | exact Classical.not_not.mp (by assumption))) | exact f_off_n2 (fw59.mp (by first | assumption | exact Classical.not_not.mp (by assumption))) | exact f_off_n3 (fw59.mp (by first | assumption | exact Classical.not_not.mp (by assumption))) | exact f_off_n5 (fw64.mp (by first | assumption | exact Classical.not_not.mp (by assumption))) | exact f_off_n4 ⟨by first | exact Or.inl (by first | assumption | exact Int32.not_le.mp (by assumption)) | exact Or.inr (Or.inl (by first | assumption | exact Int32.not_le.mp (by assumption))) | exact Or.inr (Or.inr (by first | assumption | exact Int32.not_le.mp (by assumption))), by first | exact Or.inl (by first | assumption | exact Int32.not_le.mp (by assumption)) | exact Or.inr (Or.inl (by first | assumption | exact Int32.not_le.mp (by assumption))) | exact Or.inr (Or.inr (by first | assumption | exact Int32.not_le.mp (by assumption)))⟩
                    refine r_iret hX hE dX4_offsetOf_134 (Nat.le_of_ble_eq_true rfl) (Nat.le_of_ble_eq_true rfl) ⟨_, J83, Or.inl ⟨i10, hhi10, rfl, ?_, ?_, ?_⟩, (mWF2 eJ83 (mWF2 eJ7 hJ)), rfl, rfl⟩
                    · rw [etJ83]; exact etJ7.trans (by rw [hs9.1]; rfl)
                    · rw [ho]; exact ((congrArg Prod.fst eJ83).trans ((congrArg Prod.fst eJ7).trans rfl))
                    · rw [ho]; rfl
          · refine r_iconst (v := 1) hX dX4_offsetOf_40 (by decide) ?_
            refine r_goto (tgt := 45) hX dX4_offsetOf_41 (by decide) ?_
            refine r_istore hX dX4_offsetOf_45 (by decide) rfl ?_
            refine r_iload_n hX dX4_offsetOf_47 rfl rfl ?_
            refine r_i2l hX dX4_offsetOf_48 ?_
            refine r_ldc2 hX kc_X4_72 dX4_offsetOf_49 ?_
            refine r_ldc2 hX kc_X4_74 dX4_offsetOf_52 ?_
            refine r_callS hX (c_X4_isIn _ _ _ _ _) ks_X4_38 rfl rfl (Nat.le_of_ble_eq_true rfl) ⟨(Nat.le_of_ble_eq_true rfl), (Nat.le_of_ble_eq_true rfl)⟩ ⟨(Nat.le_of_ble_eq_true rfl), (Nat.le_of_ble_eq_true rfl)⟩ dX4_offsetOf_55 (fun _ _ z => False.elim z) (fun v9 ws9 h84 => ?_)
            obtain ⟨rfl, hw9⟩ := h84
            subst ws9
            dsimp only [mPush]
            refine r_if_eq (tgt := 95) hX dX4_offsetOf_58 (by decide) (fun c86 => ?_) (fun c86 => ?_)
            · refine r_aload_n hX dX4_offsetOf_95 rfl rfl ?_
              refine r_callV hX (c_X4_no _ _ _ _ _ _) kv_X4_80 14 rfl rfl rfl rfl (Nat.le_of_ble_eq_true rfl) ⟨(Nat.le_of_ble_eq_true rfl), (Nat.le_of_ble_eq_true rfl)⟩ ⟨(Nat.le_of_ble_eq_true rfl), (Nat.le_of_ble_eq_true rfl)⟩ dX4_offsetOf_96 (fun _ _ z => False.elim z) (fun v9 ws9 h87 => ?_)
              obtain ⟨J89, etJ89, eJ89, rfl, hw9⟩ := h87
              subst ws9
              dsimp only [mPush]
              have ho : f_off p1 p2 p3 = none := by first | exact f_off_n1 (fw18.mp (by first | assumption | exact Classical.not_not.mp (by assumption))) | exact f_off_n2 (fw59.mp (by first | assumption | exact Classical.not_not.mp (by assumption))) | exact f_off_n3 (fw59.mp (by first | assumption | exact Classical.not_not.mp (by assumption))) | exact f_off_n5 (fw64.mp (by first | assumption | exact Classical.not_not.mp (by assumption))) | exact f_off_n4 ⟨by first | exact Or.inl (by first | assumption | exact Int32.not_le.mp (by assumption)) | exact Or.inr (Or.inl (by first | assumption | exact Int32.not_le.mp (by assumption))) | exact Or.inr (Or.inr (by first | assumption | exact Int32.not_le.mp (by assumption))), by first | exact Or.inl (by first | assumption | exact Int32.not_le.mp (by assumption)) | exact Or.inr (Or.inl (by first | assumption | exact Int32.not_le.mp (by assumption))) | exact Or.inr (Or.inr (by first | assumption | exact Int32.not_le.mp (by assumption)))⟩
              refine r_iret hX hE dX4_offsetOf_99 (Nat.le_of_ble_eq_true rfl) (Nat.le_of_ble_eq_true rfl) ⟨_, J89, Or.inl ⟨i10, hhi10, rfl, ?_, ?_, ?_⟩, (mWF2 eJ89 (mWF2 eJ7 hJ)), rfl, rfl⟩
              · rw [etJ89]; exact etJ7.trans (by rw [hs9.1]; rfl)
              · rw [ho]; exact ((congrArg Prod.fst eJ89).trans ((congrArg Prod.fst eJ7).trans rfl))
              · rw [ho]; rfl
            · refine r_iload_n hX dX4_offsetOf_61 rfl rfl ?_
              refine r_i2l hX dX4_offsetOf_62 ?_
              refine r_ldc2 hX kc_X4_76 dX4_offsetOf_63 ?_
              refine r_ldc2 hX kc_X4_78 dX4_offsetOf_66 ?_
              refine r_callS hX (c_X4_isIn _ _ _ _ _) ks_X4_38 rfl rfl (Nat.le_of_ble_eq_true rfl) ⟨(Nat.le_of_ble_eq_true rfl), (Nat.le_of_ble_eq_true rfl)⟩ ⟨(Nat.le_of_ble_eq_true rfl), (Nat.le_of_ble_eq_true rfl)⟩ dX4_offsetOf_69 (fun _ _ z => False.elim z) (fun v9 ws9 h90 => ?_)
              obtain ⟨rfl, hw9⟩ := h90
              subst ws9
              dsimp only [mPush]
              refine r_if_eq (tgt := 95) hX dX4_offsetOf_72 (by decide) (fun c92 => ?_) (fun c92 => ?_)
              · refine r_aload_n hX dX4_offsetOf_95 rfl rfl ?_
                refine r_callV hX (c_X4_no _ _ _ _ _ _) kv_X4_80 14 rfl rfl rfl rfl (Nat.le_of_ble_eq_true rfl) ⟨(Nat.le_of_ble_eq_true rfl), (Nat.le_of_ble_eq_true rfl)⟩ ⟨(Nat.le_of_ble_eq_true rfl), (Nat.le_of_ble_eq_true rfl)⟩ dX4_offsetOf_96 (fun _ _ z => False.elim z) (fun v9 ws9 h93 => ?_)
                obtain ⟨J95, etJ95, eJ95, rfl, hw9⟩ := h93
                subst ws9
                dsimp only [mPush]
                have ho : f_off p1 p2 p3 = none := by first | exact f_off_n1 (fw18.mp (by first | assumption | exact Classical.not_not.mp (by assumption))) | exact f_off_n2 (fw59.mp (by first | assumption | exact Classical.not_not.mp (by assumption))) | exact f_off_n3 (fw59.mp (by first | assumption | exact Classical.not_not.mp (by assumption))) | exact f_off_n5 (fw64.mp (by first | assumption | exact Classical.not_not.mp (by assumption))) | exact f_off_n4 ⟨by first | exact Or.inl (by first | assumption | exact Int32.not_le.mp (by assumption)) | exact Or.inr (Or.inl (by first | assumption | exact Int32.not_le.mp (by assumption))) | exact Or.inr (Or.inr (by first | assumption | exact Int32.not_le.mp (by assumption))), by first | exact Or.inl (by first | assumption | exact Int32.not_le.mp (by assumption)) | exact Or.inr (Or.inl (by first | assumption | exact Int32.not_le.mp (by assumption))) | exact Or.inr (Or.inr (by first | assumption | exact Int32.not_le.mp (by assumption)))⟩
                refine r_iret hX hE dX4_offsetOf_99 (Nat.le_of_ble_eq_true rfl) (Nat.le_of_ble_eq_true rfl) ⟨_, J95, Or.inl ⟨i10, hhi10, rfl, ?_, ?_, ?_⟩, (mWF2 eJ95 (mWF2 eJ7 hJ)), rfl, rfl⟩
                · rw [etJ95]; exact etJ7.trans (by rw [hs9.1]; rfl)
                · rw [ho]; exact ((congrArg Prod.fst eJ95).trans ((congrArg Prod.fst eJ7).trans rfl))
                · rw [ho]; rfl
              · refine r_iload hX dX4_offsetOf_75 rfl ?_
                refine r_i2l hX dX4_offsetOf_77 ?_
                refine r_ldc2 hX kc_X4_76 dX4_offsetOf_78 ?_
                refine r_ldc2 hX kc_X4_78 dX4_offsetOf_81 ?_
                refine r_callS hX (c_X4_isIn _ _ _ _ _) ks_X4_38 rfl rfl (Nat.le_of_ble_eq_true rfl) ⟨(Nat.le_of_ble_eq_true rfl), (Nat.le_of_ble_eq_true rfl)⟩ ⟨(Nat.le_of_ble_eq_true rfl), (Nat.le_of_ble_eq_true rfl)⟩ dX4_offsetOf_84 (fun _ _ z => False.elim z) (fun v9 ws9 h96 => ?_)
                obtain ⟨rfl, hw9⟩ := h96
                subst ws9
                dsimp only [mPush]
                refine r_if_eq (tgt := 95) hX dX4_offsetOf_87 (by decide) (fun c98 => ?_) (fun c98 => ?_)
                · refine r_aload_n hX dX4_offsetOf_95 rfl rfl ?_
                  refine r_callV hX (c_X4_no _ _ _ _ _ _) kv_X4_80 14 rfl rfl rfl rfl (Nat.le_of_ble_eq_true rfl) ⟨(Nat.le_of_ble_eq_true rfl), (Nat.le_of_ble_eq_true rfl)⟩ ⟨(Nat.le_of_ble_eq_true rfl), (Nat.le_of_ble_eq_true rfl)⟩ dX4_offsetOf_96 (fun _ _ z => False.elim z) (fun v9 ws9 h99 => ?_)
                  obtain ⟨J101, etJ101, eJ101, rfl, hw9⟩ := h99
                  subst ws9
                  dsimp only [mPush]
                  have ho : f_off p1 p2 p3 = none := by first | exact f_off_n1 (fw18.mp (by first | assumption | exact Classical.not_not.mp (by assumption))) | exact f_off_n2 (fw59.mp (by first | assumption | exact Classical.not_not.mp (by assumption))) | exact f_off_n3 (fw59.mp (by first | assumption | exact Classical.not_not.mp (by assumption))) | exact f_off_n5 (fw64.mp (by first | assumption | exact Classical.not_not.mp (by assumption))) | exact f_off_n4 ⟨by first | exact Or.inl (by first | assumption | exact Int32.not_le.mp (by assumption)) | exact Or.inr (Or.inl (by first | assumption | exact Int32.not_le.mp (by assumption))) | exact Or.inr (Or.inr (by first | assumption | exact Int32.not_le.mp (by assumption))), by first | exact Or.inl (by first | assumption | exact Int32.not_le.mp (by assumption)) | exact Or.inr (Or.inl (by first | assumption | exact Int32.not_le.mp (by assumption))) | exact Or.inr (Or.inr (by first | assumption | exact Int32.not_le.mp (by assumption)))⟩
                  refine r_iret hX hE dX4_offsetOf_99 (Nat.le_of_ble_eq_true rfl) (Nat.le_of_ble_eq_true rfl) ⟨_, J101, Or.inl ⟨i10, hhi10, rfl, ?_, ?_, ?_⟩, (mWF2 eJ101 (mWF2 eJ7 hJ)), rfl, rfl⟩
                  · rw [etJ101]; exact etJ7.trans (by rw [hs9.1]; rfl)
                  · rw [ho]; exact ((congrArg Prod.fst eJ101).trans ((congrArg Prod.fst eJ7).trans rfl))
                  · rw [ho]; rfl
                · refine r_iload hX dX4_offsetOf_90 rfl ?_
                  refine r_if_eq (tgt := 100) hX dX4_offsetOf_92 (by decide) (fun c102 => absurd c102 (by decide)) (fun c102 => ?_)
                  refine r_aload_n hX dX4_offsetOf_95 rfl rfl ?_
                  refine r_callV hX (c_X4_no _ _ _ _ _ _) kv_X4_80 14 rfl rfl rfl rfl (Nat.le_of_ble_eq_true rfl) ⟨(Nat.le_of_ble_eq_true rfl), (Nat.le_of_ble_eq_true rfl)⟩ ⟨(Nat.le_of_ble_eq_true rfl), (Nat.le_of_ble_eq_true rfl)⟩ dX4_offsetOf_96 (fun _ _ z => False.elim z) (fun v9 ws9 h103 => ?_)
                  obtain ⟨J105, etJ105, eJ105, rfl, hw9⟩ := h103
                  subst ws9
                  dsimp only [mPush]
                  have ho : f_off p1 p2 p3 = none := by first | exact f_off_n1 (fw18.mp (by first | assumption | exact Classical.not_not.mp (by assumption))) | exact f_off_n2 (fw59.mp (by first | assumption | exact Classical.not_not.mp (by assumption))) | exact f_off_n3 (fw59.mp (by first | assumption | exact Classical.not_not.mp (by assumption))) | exact f_off_n5 (fw64.mp (by first | assumption | exact Classical.not_not.mp (by assumption))) | exact f_off_n4 ⟨by first | exact Or.inl (by first | assumption | exact Int32.not_le.mp (by assumption)) | exact Or.inr (Or.inl (by first | assumption | exact Int32.not_le.mp (by assumption))) | exact Or.inr (Or.inr (by first | assumption | exact Int32.not_le.mp (by assumption))), by first | exact Or.inl (by first | assumption | exact Int32.not_le.mp (by assumption)) | exact Or.inr (Or.inl (by first | assumption | exact Int32.not_le.mp (by assumption))) | exact Or.inr (Or.inr (by first | assumption | exact Int32.not_le.mp (by assumption)))⟩
                  refine r_iret hX hE dX4_offsetOf_99 (Nat.le_of_ble_eq_true rfl) (Nat.le_of_ble_eq_true rfl) ⟨_, J105, Or.inl ⟨i10, hhi10, rfl, ?_, ?_, ?_⟩, (mWF2 eJ105 (mWF2 eJ7 hJ)), rfl, rfl⟩
                  · rw [etJ105]; exact etJ7.trans (by rw [hs9.1]; rfl)
                  · rw [ho]; exact ((congrArg Prod.fst eJ105).trans ((congrArg Prod.fst eJ7).trans rfl))
                  · rw [ho]; rfl
    · refine r_iload_n hX dX4_offsetOf_18 rfl rfl ?_
      refine r_if_gt (tgt := 27) hX dX4_offsetOf_19 (by decide) (fun c106 => ?_) (fun c106 => ?_)
      · refine r_iload_n hX dX4_offsetOf_27 rfl rfl ?_
        refine r_if_lt (tgt := 40) hX dX4_offsetOf_28 (by decide) (fun c107 => ?_) (fun c107 => ?_)
        · refine r_iconst (v := 1) hX dX4_offsetOf_40 (by decide) ?_
          refine r_goto (tgt := 45) hX dX4_offsetOf_41 (by decide) ?_
          refine r_istore hX dX4_offsetOf_45 (by decide) rfl ?_
          refine r_iload_n hX dX4_offsetOf_47 rfl rfl ?_
          refine r_i2l hX dX4_offsetOf_48 ?_
          refine r_ldc2 hX kc_X4_72 dX4_offsetOf_49 ?_
          refine r_ldc2 hX kc_X4_74 dX4_offsetOf_52 ?_
          refine r_callS hX (c_X4_isIn _ _ _ _ _) ks_X4_38 rfl rfl (Nat.le_of_ble_eq_true rfl) ⟨(Nat.le_of_ble_eq_true rfl), (Nat.le_of_ble_eq_true rfl)⟩ ⟨(Nat.le_of_ble_eq_true rfl), (Nat.le_of_ble_eq_true rfl)⟩ dX4_offsetOf_55 (fun _ _ z => False.elim z) (fun v9 ws9 h108 => ?_)
          obtain ⟨rfl, hw9⟩ := h108
          subst ws9
          dsimp only [mPush]
          refine r_if_eq (tgt := 95) hX dX4_offsetOf_58 (by decide) (fun c110 => ?_) (fun c110 => ?_)
          · refine r_aload_n hX dX4_offsetOf_95 rfl rfl ?_
            refine r_callV hX (c_X4_no _ _ _ _ _ _) kv_X4_80 14 rfl rfl rfl rfl (Nat.le_of_ble_eq_true rfl) ⟨(Nat.le_of_ble_eq_true rfl), (Nat.le_of_ble_eq_true rfl)⟩ ⟨(Nat.le_of_ble_eq_true rfl), (Nat.le_of_ble_eq_true rfl)⟩ dX4_offsetOf_96 (fun _ _ z => False.elim z) (fun v9 ws9 h111 => ?_)
            obtain ⟨J113, etJ113, eJ113, rfl, hw9⟩ := h111
            subst ws9
            dsimp only [mPush]
            have ho : f_off p1 p2 p3 = none := by first | exact f_off_n1 (fw18.mp (by first | assumption | exact Classical.not_not.mp (by assumption))) | exact f_off_n2 (fw59.mp (by first | assumption | exact Classical.not_not.mp (by assumption))) | exact f_off_n3 (fw59.mp (by first | assumption | exact Classical.not_not.mp (by assumption))) | exact f_off_n5 (fw64.mp (by first | assumption | exact Classical.not_not.mp (by assumption))) | exact f_off_n4 ⟨by first | exact Or.inl (by first | assumption | exact Int32.not_le.mp (by assumption)) | exact Or.inr (Or.inl (by first | assumption | exact Int32.not_le.mp (by assumption))) | exact Or.inr (Or.inr (by first | assumption | exact Int32.not_le.mp (by assumption))), by first | exact Or.inl (by first | assumption | exact Int32.not_le.mp (by assumption)) | exact Or.inr (Or.inl (by first | assumption | exact Int32.not_le.mp (by assumption))) | exact Or.inr (Or.inr (by first | assumption | exact Int32.not_le.mp (by assumption)))⟩
            refine r_iret hX hE dX4_offsetOf_99 (Nat.le_of_ble_eq_true rfl) (Nat.le_of_ble_eq_true rfl) ⟨_, J113, Or.inl ⟨i10, hhi10, rfl, ?_, ?_, ?_⟩, (mWF2 eJ113 (mWF2 eJ7 hJ)), rfl, rfl⟩
            · rw [etJ113]; exact etJ7.trans (by rw [hs9.1]; rfl)
            · rw [ho]; exact ((congrArg Prod.fst eJ113).trans ((congrArg Prod.fst eJ7).trans rfl))
            · rw [ho]; rfl
          · refine r_iload_n hX dX4_offsetOf_61 rfl rfl ?_
            refine r_i2l hX dX4_offsetOf_62 ?_
            refine r_ldc2 hX kc_X4_76 dX4_offsetOf_63 ?_
            refine r_ldc2 hX kc_X4_78 dX4_offsetOf_66 ?_
            refine r_callS hX (c_X4_isIn _ _ _ _ _) ks_X4_38 rfl rfl (Nat.le_of_ble_eq_true rfl) ⟨(Nat.le_of_ble_eq_true rfl), (Nat.le_of_ble_eq_true rfl)⟩ ⟨(Nat.le_of_ble_eq_true rfl), (Nat.le_of_ble_eq_true rfl)⟩ dX4_offsetOf_69 (fun _ _ z => False.elim z) (fun v9 ws9 h114 => ?_)
            obtain ⟨rfl, hw9⟩ := h114
            subst ws9
            dsimp only [mPush]
            refine r_if_eq (tgt := 95) hX dX4_offsetOf_72 (by decide) (fun c116 => ?_) (fun c116 => ?_)
            · refine r_aload_n hX dX4_offsetOf_95 rfl rfl ?_
              refine r_callV hX (c_X4_no _ _ _ _ _ _) kv_X4_80 14 rfl rfl rfl rfl (Nat.le_of_ble_eq_true rfl) ⟨(Nat.le_of_ble_eq_true rfl), (Nat.le_of_ble_eq_true rfl)⟩ ⟨(Nat.le_of_ble_eq_true rfl), (Nat.le_of_ble_eq_true rfl)⟩ dX4_offsetOf_96 (fun _ _ z => False.elim z) (fun v9 ws9 h117 => ?_)
              obtain ⟨J119, etJ119, eJ119, rfl, hw9⟩ := h117
              subst ws9
              dsimp only [mPush]
              have ho : f_off p1 p2 p3 = none := by first | exact f_off_n1 (fw18.mp (by first | assumption | exact Classical.not_not.mp (by assumption))) | exact f_off_n2 (fw59.mp (by first | assumption | exact Classical.not_not.mp (by assumption))) | exact f_off_n3 (fw59.mp (by first | assumption | exact Classical.not_not.mp (by assumption))) | exact f_off_n5 (fw64.mp (by first | assumption | exact Classical.not_not.mp (by assumption))) | exact f_off_n4 ⟨by first | exact Or.inl (by first | assumption | exact Int32.not_le.mp (by assumption)) | exact Or.inr (Or.inl (by first | assumption | exact Int32.not_le.mp (by assumption))) | exact Or.inr (Or.inr (by first | assumption | exact Int32.not_le.mp (by assumption))), by first | exact Or.inl (by first | assumption | exact Int32.not_le.mp (by assumption)) | exact Or.inr (Or.inl (by first | assumption | exact Int32.not_le.mp (by assumption))) | exact Or.inr (Or.inr (by first | assumption | exact Int32.not_le.mp (by assumption)))⟩
              refine r_iret hX hE dX4_offsetOf_99 (Nat.le_of_ble_eq_true rfl) (Nat.le_of_ble_eq_true rfl) ⟨_, J119, Or.inl ⟨i10, hhi10, rfl, ?_, ?_, ?_⟩, (mWF2 eJ119 (mWF2 eJ7 hJ)), rfl, rfl⟩
              · rw [etJ119]; exact etJ7.trans (by rw [hs9.1]; rfl)
              · rw [ho]; exact ((congrArg Prod.fst eJ119).trans ((congrArg Prod.fst eJ7).trans rfl))
              · rw [ho]; rfl
            · refine r_iload hX dX4_offsetOf_75 rfl ?_
              refine r_i2l hX dX4_offsetOf_77 ?_
              refine r_ldc2 hX kc_X4_76 dX4_offsetOf_78 ?_
              refine r_ldc2 hX kc_X4_78 dX4_offsetOf_81 ?_
              refine r_callS hX (c_X4_isIn _ _ _ _ _) ks_X4_38 rfl rfl (Nat.le_of_ble_eq_true rfl) ⟨(Nat.le_of_ble_eq_true rfl), (Nat.le_of_ble_eq_true rfl)⟩ ⟨(Nat.le_of_ble_eq_true rfl), (Nat.le_of_ble_eq_true rfl)⟩ dX4_offsetOf_84 (fun _ _ z => False.elim z) (fun v9 ws9 h120 => ?_)
              obtain ⟨rfl, hw9⟩ := h120
              subst ws9
              dsimp only [mPush]
              refine r_if_eq (tgt := 95) hX dX4_offsetOf_87 (by decide) (fun c122 => ?_) (fun c122 => ?_)
              · refine r_aload_n hX dX4_offsetOf_95 rfl rfl ?_
                refine r_callV hX (c_X4_no _ _ _ _ _ _) kv_X4_80 14 rfl rfl rfl rfl (Nat.le_of_ble_eq_true rfl) ⟨(Nat.le_of_ble_eq_true rfl), (Nat.le_of_ble_eq_true rfl)⟩ ⟨(Nat.le_of_ble_eq_true rfl), (Nat.le_of_ble_eq_true rfl)⟩ dX4_offsetOf_96 (fun _ _ z => False.elim z) (fun v9 ws9 h123 => ?_)
                obtain ⟨J125, etJ125, eJ125, rfl, hw9⟩ := h123
                subst ws9
                dsimp only [mPush]
                have ho : f_off p1 p2 p3 = none := by first | exact f_off_n1 (fw18.mp (by first | assumption | exact Classical.not_not.mp (by assumption))) | exact f_off_n2 (fw59.mp (by first | assumption | exact Classical.not_not.mp (by assumption))) | exact f_off_n3 (fw59.mp (by first | assumption | exact Classical.not_not.mp (by assumption))) | exact f_off_n5 (fw64.mp (by first | assumption | exact Classical.not_not.mp (by assumption))) | exact f_off_n4 ⟨by first | exact Or.inl (by first | assumption | exact Int32.not_le.mp (by assumption)) | exact Or.inr (Or.inl (by first | assumption | exact Int32.not_le.mp (by assumption))) | exact Or.inr (Or.inr (by first | assumption | exact Int32.not_le.mp (by assumption))), by first | exact Or.inl (by first | assumption | exact Int32.not_le.mp (by assumption)) | exact Or.inr (Or.inl (by first | assumption | exact Int32.not_le.mp (by assumption))) | exact Or.inr (Or.inr (by first | assumption | exact Int32.not_le.mp (by assumption)))⟩
                refine r_iret hX hE dX4_offsetOf_99 (Nat.le_of_ble_eq_true rfl) (Nat.le_of_ble_eq_true rfl) ⟨_, J125, Or.inl ⟨i10, hhi10, rfl, ?_, ?_, ?_⟩, (mWF2 eJ125 (mWF2 eJ7 hJ)), rfl, rfl⟩
                · rw [etJ125]; exact etJ7.trans (by rw [hs9.1]; rfl)
                · rw [ho]; exact ((congrArg Prod.fst eJ125).trans ((congrArg Prod.fst eJ7).trans rfl))
                · rw [ho]; rfl
              · refine r_iload hX dX4_offsetOf_90 rfl ?_
                refine r_if_eq (tgt := 100) hX dX4_offsetOf_92 (by decide) (fun c126 => absurd c126 (by decide)) (fun c126 => ?_)
                refine r_aload_n hX dX4_offsetOf_95 rfl rfl ?_
                refine r_callV hX (c_X4_no _ _ _ _ _ _) kv_X4_80 14 rfl rfl rfl rfl (Nat.le_of_ble_eq_true rfl) ⟨(Nat.le_of_ble_eq_true rfl), (Nat.le_of_ble_eq_true rfl)⟩ ⟨(Nat.le_of_ble_eq_true rfl), (Nat.le_of_ble_eq_true rfl)⟩ dX4_offsetOf_96 (fun _ _ z => False.elim z) (fun v9 ws9 h127 => ?_)
                obtain ⟨J129, etJ129, eJ129, rfl, hw9⟩ := h127
                subst ws9
                dsimp only [mPush]
                have ho : f_off p1 p2 p3 = none := by first | exact f_off_n1 (fw18.mp (by first | assumption | exact Classical.not_not.mp (by assumption))) | exact f_off_n2 (fw59.mp (by first | assumption | exact Classical.not_not.mp (by assumption))) | exact f_off_n3 (fw59.mp (by first | assumption | exact Classical.not_not.mp (by assumption))) | exact f_off_n5 (fw64.mp (by first | assumption | exact Classical.not_not.mp (by assumption))) | exact f_off_n4 ⟨by first | exact Or.inl (by first | assumption | exact Int32.not_le.mp (by assumption)) | exact Or.inr (Or.inl (by first | assumption | exact Int32.not_le.mp (by assumption))) | exact Or.inr (Or.inr (by first | assumption | exact Int32.not_le.mp (by assumption))), by first | exact Or.inl (by first | assumption | exact Int32.not_le.mp (by assumption)) | exact Or.inr (Or.inl (by first | assumption | exact Int32.not_le.mp (by assumption))) | exact Or.inr (Or.inr (by first | assumption | exact Int32.not_le.mp (by assumption)))⟩
                refine r_iret hX hE dX4_offsetOf_99 (Nat.le_of_ble_eq_true rfl) (Nat.le_of_ble_eq_true rfl) ⟨_, J129, Or.inl ⟨i10, hhi10, rfl, ?_, ?_, ?_⟩, (mWF2 eJ129 (mWF2 eJ7 hJ)), rfl, rfl⟩
                · rw [etJ129]; exact etJ7.trans (by rw [hs9.1]; rfl)
                · rw [ho]; exact ((congrArg Prod.fst eJ129).trans ((congrArg Prod.fst eJ7).trans rfl))
                · rw [ho]; rfl
        · refine r_iload_n hX dX4_offsetOf_31 rfl rfl ?_
          refine r_if_lt (tgt := 40) hX dX4_offsetOf_32 (by decide) (fun c130 => ?_) (fun c130 => ?_)
          · refine r_iconst (v := 1) hX dX4_offsetOf_40 (by decide) ?_
            refine r_goto (tgt := 45) hX dX4_offsetOf_41 (by decide) ?_
            refine r_istore hX dX4_offsetOf_45 (by decide) rfl ?_
            refine r_iload_n hX dX4_offsetOf_47 rfl rfl ?_
            refine r_i2l hX dX4_offsetOf_48 ?_
            refine r_ldc2 hX kc_X4_72 dX4_offsetOf_49 ?_
            refine r_ldc2 hX kc_X4_74 dX4_offsetOf_52 ?_
            refine r_callS hX (c_X4_isIn _ _ _ _ _) ks_X4_38 rfl rfl (Nat.le_of_ble_eq_true rfl) ⟨(Nat.le_of_ble_eq_true rfl), (Nat.le_of_ble_eq_true rfl)⟩ ⟨(Nat.le_of_ble_eq_true rfl), (Nat.le_of_ble_eq_true rfl)⟩ dX4_offsetOf_55 (fun _ _ z => False.elim z) (fun v9 ws9 h131 => ?_)
            obtain ⟨rfl, hw9⟩ := h131
            subst ws9
            dsimp only [mPush]
            refine r_if_eq (tgt := 95) hX dX4_offsetOf_58 (by decide) (fun c133 => ?_) (fun c133 => ?_)
            · refine r_aload_n hX dX4_offsetOf_95 rfl rfl ?_
              refine r_callV hX (c_X4_no _ _ _ _ _ _) kv_X4_80 14 rfl rfl rfl rfl (Nat.le_of_ble_eq_true rfl) ⟨(Nat.le_of_ble_eq_true rfl), (Nat.le_of_ble_eq_true rfl)⟩ ⟨(Nat.le_of_ble_eq_true rfl), (Nat.le_of_ble_eq_true rfl)⟩ dX4_offsetOf_96 (fun _ _ z => False.elim z) (fun v9 ws9 h134 => ?_)
              obtain ⟨J136, etJ136, eJ136, rfl, hw9⟩ := h134
              subst ws9
              dsimp only [mPush]
              have ho : f_off p1 p2 p3 = none := by first | exact f_off_n1 (fw18.mp (by first | assumption | exact Classical.not_not.mp (by assumption))) | exact f_off_n2 (fw59.mp (by first | assumption | exact Classical.not_not.mp (by assumption))) | exact f_off_n3 (fw59.mp (by first | assumption | exact Classical.not_not.mp (by assumption))) | exact f_off_n5 (fw64.mp (by first | assumption | exact Classical.not_not.mp (by assumption))) | exact f_off_n4 ⟨by first | exact Or.inl (by first | assumption | exact Int32.not_le.mp (by assumption)) | exact Or.inr (Or.inl (by first | assumption | exact Int32.not_le.mp (by assumption))) | exact Or.inr (Or.inr (by first | assumption | exact Int32.not_le.mp (by assumption))), by first | exact Or.inl (by first | assumption | exact Int32.not_le.mp (by assumption)) | exact Or.inr (Or.inl (by first | assumption | exact Int32.not_le.mp (by assumption))) | exact Or.inr (Or.inr (by first | assumption | exact Int32.not_le.mp (by assumption)))⟩
              refine r_iret hX hE dX4_offsetOf_99 (Nat.le_of_ble_eq_true rfl) (Nat.le_of_ble_eq_true rfl) ⟨_, J136, Or.inl ⟨i10, hhi10, rfl, ?_, ?_, ?_⟩, (mWF2 eJ136 (mWF2 eJ7 hJ)), rfl, rfl⟩
              · rw [etJ136]; exact etJ7.trans (by rw [hs9.1]; rfl)
              · rw [ho]; exact ((congrArg Prod.fst eJ136).trans ((congrArg Prod.fst eJ7).trans rfl))
              · rw [ho]; rfl
            · refine r_iload_n hX dX4_offsetOf_61 rfl rfl ?_
              refine r_i2l hX dX4_offsetOf_62 ?_
              refine r_ldc2 hX kc_X4_76 dX4_offsetOf_63 ?_
              refine r_ldc2 hX kc_X4_78 dX4_offsetOf_66 ?_
              refine r_callS hX (c_X4_isIn _ _ _ _ _) ks_X4_38 rfl rfl (Nat.le_of_ble_eq_true rfl) ⟨(Nat.le_of_ble_eq_true rfl), (Nat.le_of_ble_eq_true rfl)⟩ ⟨(Nat.le_of_ble_eq_true rfl), (Nat.le_of_ble_eq_true rfl)⟩ dX4_offsetOf_69 (fun _ _ z => False.elim z) (fun v9 ws9 h137 => ?_)
              obtain ⟨rfl, hw9⟩ := h137
              subst ws9
              dsimp only [mPush]
              refine r_if_eq (tgt := 95) hX dX4_offsetOf_72 (by decide) (fun c139 => ?_) (fun c139 => ?_)
              · refine r_aload_n hX dX4_offsetOf_95 rfl rfl ?_
                refine r_callV hX (c_X4_no _ _ _ _ _ _) kv_X4_80 14 rfl rfl rfl rfl (Nat.le_of_ble_eq_true rfl) ⟨(Nat.le_of_ble_eq_true rfl), (Nat.le_of_ble_eq_true rfl)⟩ ⟨(Nat.le_of_ble_eq_true rfl), (Nat.le_of_ble_eq_true rfl)⟩ dX4_offsetOf_96 (fun _ _ z => False.elim z) (fun v9 ws9 h140 => ?_)
                obtain ⟨J142, etJ142, eJ142, rfl, hw9⟩ := h140
                subst ws9
                dsimp only [mPush]
                have ho : f_off p1 p2 p3 = none := by first | exact f_off_n1 (fw18.mp (by first | assumption | exact Classical.not_not.mp (by assumption))) | exact f_off_n2 (fw59.mp (by first | assumption | exact Classical.not_not.mp (by assumption))) | exact f_off_n3 (fw59.mp (by first | assumption | exact Classical.not_not.mp (by assumption))) | exact f_off_n5 (fw64.mp (by first | assumption | exact Classical.not_not.mp (by assumption))) | exact f_off_n4 ⟨by first | exact Or.inl (by first | assumption | exact Int32.not_le.mp (by assumption)) | exact Or.inr (Or.inl (by first | assumption | exact Int32.not_le.mp (by assumption))) | exact Or.inr (Or.inr (by first | assumption | exact Int32.not_le.mp (by assumption))), by first | exact Or.inl (by first | assumption | exact Int32.not_le.mp (by assumption)) | exact Or.inr (Or.inl (by first | assumption | exact Int32.not_le.mp (by assumption))) | exact Or.inr (Or.inr (by first | assumption | exact Int32.not_le.mp (by assumption)))⟩
                refine r_iret hX hE dX4_offsetOf_99 (Nat.le_of_ble_eq_true rfl) (Nat.le_of_ble_eq_true rfl) ⟨_, J142, Or.inl ⟨i10, hhi10, rfl, ?_, ?_, ?_⟩, (mWF2 eJ142 (mWF2 eJ7 hJ)), rfl, rfl⟩
                · rw [etJ142]; exact etJ7.trans (by rw [hs9.1]; rfl)
                · rw [ho]; exact ((congrArg Prod.fst eJ142).trans ((congrArg Prod.fst eJ7).trans rfl))
                · rw [ho]; rfl
              · refine r_iload hX dX4_offsetOf_75 rfl ?_
                refine r_i2l hX dX4_offsetOf_77 ?_
                refine r_ldc2 hX kc_X4_76 dX4_offsetOf_78 ?_
                refine r_ldc2 hX kc_X4_78 dX4_offsetOf_81 ?_
                refine r_callS hX (c_X4_isIn _ _ _ _ _) ks_X4_38 rfl rfl (Nat.le_of_ble_eq_true rfl) ⟨(Nat.le_of_ble_eq_true rfl), (Nat.le_of_ble_eq_true rfl)⟩ ⟨(Nat.le_of_ble_eq_true rfl), (Nat.le_of_ble_eq_true rfl)⟩ dX4_offsetOf_84 (fun _ _ z => False.elim z) (fun v9 ws9 h143 => ?_)
                obtain ⟨rfl, hw9⟩ := h143
                subst ws9
                dsimp only [mPush]
                refine r_if_eq (tgt := 95) hX dX4_offsetOf_87 (by decide) (fun c145 => ?_) (fun c145 => ?_)
                · refine r_aload_n hX dX4_offsetOf_95 rfl rfl ?_
                  refine r_callV hX (c_X4_no _ _ _ _ _ _) kv_X4_80 14 rfl rfl rfl rfl (Nat.le_of_ble_eq_true rfl) ⟨(Nat.le_of_ble_eq_true rfl), (Nat.le_of_ble_eq_true rfl)⟩ ⟨(Nat.le_of_ble_eq_true rfl), (Nat.le_of_ble_eq_true rfl)⟩ dX4_offsetOf_96 (fun _ _ z => False.elim z) (fun v9 ws9 h146 => ?_)
                  obtain ⟨J148, etJ148, eJ148, rfl, hw9⟩ := h146
                  subst ws9
                  dsimp only [mPush]
                  have ho : f_off p1 p2 p3 = none := by first | exact f_off_n1 (fw18.mp (by first | assumption | exact Classical.not_not.mp (by assumption))) | exact f_off_n2 (fw59.mp (by first | assumption | exact Classical.not_not.mp (by assumption))) | exact f_off_n3 (fw59.mp (by first | assumption | exact Classical.not_not.mp (by assumption))) | exact f_off_n5 (fw64.mp (by first | assumption | exact Classical.not_not.mp (by assumption))) | exact f_off_n4 ⟨by first | exact Or.inl (by first | assumption | exact Int32.not_le.mp (by assumption)) | exact Or.inr (Or.inl (by first | assumption | exact Int32.not_le.mp (by assumption))) | exact Or.inr (Or.inr (by first | assumption | exact Int32.not_le.mp (by assumption))), by first | exact Or.inl (by first | assumption | exact Int32.not_le.mp (by assumption)) | exact Or.inr (Or.inl (by first | assumption | exact Int32.not_le.mp (by assumption))) | exact Or.inr (Or.inr (by first | assumption | exact Int32.not_le.mp (by assumption)))⟩
                  refine r_iret hX hE dX4_offsetOf_99 (Nat.le_of_ble_eq_true rfl) (Nat.le_of_ble_eq_true rfl) ⟨_, J148, Or.inl ⟨i10, hhi10, rfl, ?_, ?_, ?_⟩, (mWF2 eJ148 (mWF2 eJ7 hJ)), rfl, rfl⟩
                  · rw [etJ148]; exact etJ7.trans (by rw [hs9.1]; rfl)
                  · rw [ho]; exact ((congrArg Prod.fst eJ148).trans ((congrArg Prod.fst eJ7).trans rfl))
                  · rw [ho]; rfl
                · refine r_iload hX dX4_offsetOf_90 rfl ?_
                  refine r_if_eq (tgt := 100) hX dX4_offsetOf_92 (by decide) (fun c149 => absurd c149 (by decide)) (fun c149 => ?_)
                  refine r_aload_n hX dX4_offsetOf_95 rfl rfl ?_
                  refine r_callV hX (c_X4_no _ _ _ _ _ _) kv_X4_80 14 rfl rfl rfl rfl (Nat.le_of_ble_eq_true rfl) ⟨(Nat.le_of_ble_eq_true rfl), (Nat.le_of_ble_eq_true rfl)⟩ ⟨(Nat.le_of_ble_eq_true rfl), (Nat.le_of_ble_eq_true rfl)⟩ dX4_offsetOf_96 (fun _ _ z => False.elim z) (fun v9 ws9 h150 => ?_)
                  obtain ⟨J152, etJ152, eJ152, rfl, hw9⟩ := h150
                  subst ws9
                  dsimp only [mPush]
                  have ho : f_off p1 p2 p3 = none := by first | exact f_off_n1 (fw18.mp (by first | assumption | exact Classical.not_not.mp (by assumption))) | exact f_off_n2 (fw59.mp (by first | assumption | exact Classical.not_not.mp (by assumption))) | exact f_off_n3 (fw59.mp (by first | assumption | exact Classical.not_not.mp (by assumption))) | exact f_off_n5 (fw64.mp (by first | assumption | exact Classical.not_not.mp (by assumption))) | exact f_off_n4 ⟨by first | exact Or.inl (by first | assumption | exact Int32.not_le.mp (by assumption)) | exact Or.inr (Or.inl (by first | assumption | exact Int32.not_le.mp (by assumption))) | exact Or.inr (Or.inr (by first | assumption | exact Int32.not_le.mp (by assumption))), by first | exact Or.inl (by first | assumption | exact Int32.not_le.mp (by assumption)) | exact Or.inr (Or.inl (by first | assumption | exact Int32.not_le.mp (by assumption))) | exact Or.inr (Or.inr (by first | assumption | exact Int32.not_le.mp (by assumption)))⟩
                  refine r_iret hX hE dX4_offsetOf_99 (Nat.le_of_ble_eq_true rfl) (Nat.le_of_ble_eq_true rfl) ⟨_, J152, Or.inl ⟨i10, hhi10, rfl, ?_, ?_, ?_⟩, (mWF2 eJ152 (mWF2 eJ7 hJ)), rfl, rfl⟩
                  · rw [etJ152]; exact etJ7.trans (by rw [hs9.1]; rfl)
                  · rw [ho]; exact ((congrArg Prod.fst eJ152).trans ((congrArg Prod.fst eJ7).trans rfl))
                  · rw [ho]; rfl
          · refine r_iload hX dX4_offsetOf_35 rfl ?_
            refine r_if_ge (tgt := 44) hX dX4_offsetOf_37 (by decide) (fun c153 => ?_) (fun c153 => ?_)
            · refine r_iconst (v := 0) hX dX4_offsetOf_44 (by decide) ?_
              refine r_istore hX dX4_offsetOf_45 (by decide) rfl ?_
              refine r_iload_n hX dX4_offsetOf_47 rfl rfl ?_
              refine r_i2l hX dX4_offsetOf_48 ?_
              refine r_ldc2 hX kc_X4_72 dX4_offsetOf_49 ?_
              refine r_ldc2 hX kc_X4_74 dX4_offsetOf_52 ?_
              refine r_callS hX (c_X4_isIn _ _ _ _ _) ks_X4_38 rfl rfl (Nat.le_of_ble_eq_true rfl) ⟨(Nat.le_of_ble_eq_true rfl), (Nat.le_of_ble_eq_true rfl)⟩ ⟨(Nat.le_of_ble_eq_true rfl), (Nat.le_of_ble_eq_true rfl)⟩ dX4_offsetOf_55 (fun _ _ z => False.elim z) (fun v9 ws9 h154 => ?_)
              obtain ⟨rfl, hw9⟩ := h154
              subst ws9
              dsimp only [mPush]
              refine r_if_eq (tgt := 95) hX dX4_offsetOf_58 (by decide) (fun c156 => ?_) (fun c156 => ?_)
              · refine r_aload_n hX dX4_offsetOf_95 rfl rfl ?_
                refine r_callV hX (c_X4_no _ _ _ _ _ _) kv_X4_80 14 rfl rfl rfl rfl (Nat.le_of_ble_eq_true rfl) ⟨(Nat.le_of_ble_eq_true rfl), (Nat.le_of_ble_eq_true rfl)⟩ ⟨(Nat.le_of_ble_eq_true rfl), (Nat.le_of_ble_eq_true rfl)⟩ dX4_offsetOf_96 (fun _ _ z => False.elim z) (fun v9 ws9 h157 => ?_)
                obtain ⟨J159, etJ159, eJ159, rfl, hw9⟩ := h157
                subst ws9
                dsimp only [mPush]
                have ho : f_off p1 p2 p3 = none := by first | exact f_off_n1 (fw18.mp (by first | assumption | exact Classical.not_not.mp (by assumption))) | exact f_off_n2 (fw59.mp (by first | assumption | exact Classical.not_not.mp (by assumption))) | exact f_off_n3 (fw59.mp (by first | assumption | exact Classical.not_not.mp (by assumption))) | exact f_off_n5 (fw64.mp (by first | assumption | exact Classical.not_not.mp (by assumption))) | exact f_off_n4 ⟨by first | exact Or.inl (by first | assumption | exact Int32.not_le.mp (by assumption)) | exact Or.inr (Or.inl (by first | assumption | exact Int32.not_le.mp (by assumption))) | exact Or.inr (Or.inr (by first | assumption | exact Int32.not_le.mp (by assumption))), by first | exact Or.inl (by first | assumption | exact Int32.not_le.mp (by assumption)) | exact Or.inr (Or.inl (by first | assumption | exact Int32.not_le.mp (by assumption))) | exact Or.inr (Or.inr (by first | assumption | exact Int32.not_le.mp (by assumption)))⟩
                refine r_iret hX hE dX4_offsetOf_99 (Nat.le_of_ble_eq_true rfl) (Nat.le_of_ble_eq_true rfl) ⟨_, J159, Or.inl ⟨i10, hhi10, rfl, ?_, ?_, ?_⟩, (mWF2 eJ159 (mWF2 eJ7 hJ)), rfl, rfl⟩
                · rw [etJ159]; exact etJ7.trans (by rw [hs9.1]; rfl)
                · rw [ho]; exact ((congrArg Prod.fst eJ159).trans ((congrArg Prod.fst eJ7).trans rfl))
                · rw [ho]; rfl
              · refine r_iload_n hX dX4_offsetOf_61 rfl rfl ?_
                refine r_i2l hX dX4_offsetOf_62 ?_
                refine r_ldc2 hX kc_X4_76 dX4_offsetOf_63 ?_
                refine r_ldc2 hX kc_X4_78 dX4_offsetOf_66 ?_
                refine r_callS hX (c_X4_isIn _ _ _ _ _) ks_X4_38 rfl rfl (Nat.le_of_ble_eq_true rfl) ⟨(Nat.le_of_ble_eq_true rfl), (Nat.le_of_ble_eq_true rfl)⟩ ⟨(Nat.le_of_ble_eq_true rfl), (Nat.le_of_ble_eq_true rfl)⟩ dX4_offsetOf_69 (fun _ _ z => False.elim z) (fun v9 ws9 h160 => ?_)
                obtain ⟨rfl, hw9⟩ := h160
                subst ws9
                dsimp only [mPush]
                refine r_if_eq (tgt := 95) hX dX4_offsetOf_72 (by decide) (fun c162 => ?_) (fun c162 => ?_)
                · refine r_aload_n hX dX4_offsetOf_95 rfl rfl ?_
                  refine r_callV hX (c_X4_no _ _ _ _ _ _) kv_X4_80 14 rfl rfl rfl rfl (Nat.le_of_ble_eq_true rfl) ⟨(Nat.le_of_ble_eq_true rfl), (Nat.le_of_ble_eq_true rfl)⟩ ⟨(Nat.le_of_ble_eq_true rfl), (Nat.le_of_ble_eq_true rfl)⟩ dX4_offsetOf_96 (fun _ _ z => False.elim z) (fun v9 ws9 h163 => ?_)
                  obtain ⟨J165, etJ165, eJ165, rfl, hw9⟩ := h163
                  subst ws9
                  dsimp only [mPush]
                  have ho : f_off p1 p2 p3 = none := by first | exact f_off_n1 (fw18.mp (by first | assumption | exact Classical.not_not.mp (by assumption))) | exact f_off_n2 (fw59.mp (by first | assumption | exact Classical.not_not.mp (by assumption))) | exact f_off_n3 (fw59.mp (by first | assumption | exact Classical.not_not.mp (by assumption))) | exact f_off_n5 (fw64.mp (by first | assumption | exact Classical.not_not.mp (by assumption))) | exact f_off_n4 ⟨by first | exact Or.inl (by first | assumption | exact Int32.not_le.mp (by assumption)) | exact Or.inr (Or.inl (by first | assumption | exact Int32.not_le.mp (by assumption))) | exact Or.inr (Or.inr (by first | assumption | exact Int32.not_le.mp (by assumption))), by first | exact Or.inl (by first | assumption | exact Int32.not_le.mp (by assumption)) | exact Or.inr (Or.inl (by first | assumption | exact Int32.not_le.mp (by assumption))) | exact Or.inr (Or.inr (by first | assumption | exact Int32.not_le.mp (by assumption)))⟩
                  refine r_iret hX hE dX4_offsetOf_99 (Nat.le_of_ble_eq_true rfl) (Nat.le_of_ble_eq_true rfl) ⟨_, J165, Or.inl ⟨i10, hhi10, rfl, ?_, ?_, ?_⟩, (mWF2 eJ165 (mWF2 eJ7 hJ)), rfl, rfl⟩
                  · rw [etJ165]; exact etJ7.trans (by rw [hs9.1]; rfl)
                  · rw [ho]; exact ((congrArg Prod.fst eJ165).trans ((congrArg Prod.fst eJ7).trans rfl))
                  · rw [ho]; rfl
                · refine r_iload hX dX4_offsetOf_75 rfl ?_
                  refine r_i2l hX dX4_offsetOf_77 ?_
                  refine r_ldc2 hX kc_X4_76 dX4_offsetOf_78 ?_
                  refine r_ldc2 hX kc_X4_78 dX4_offsetOf_81 ?_
                  refine r_callS hX (c_X4_isIn _ _ _ _ _) ks_X4_38 rfl rfl (Nat.le_of_ble_eq_true rfl) ⟨(Nat.le_of_ble_eq_true rfl), (Nat.le_of_ble_eq_true rfl)⟩ ⟨(Nat.le_of_ble_eq_true rfl), (Nat.le_of_ble_eq_true rfl)⟩ dX4_offsetOf_84 (fun _ _ z => False.elim z) (fun v9 ws9 h166 => ?_)
                  obtain ⟨rfl, hw9⟩ := h166
                  subst ws9
                  dsimp only [mPush]
                  refine r_if_eq (tgt := 95) hX dX4_offsetOf_87 (by decide) (fun c168 => ?_) (fun c168 => ?_)
                  · refine r_aload_n hX dX4_offsetOf_95 rfl rfl ?_
                    refine r_callV hX (c_X4_no _ _ _ _ _ _) kv_X4_80 14 rfl rfl rfl rfl (Nat.le_of_ble_eq_true rfl) ⟨(Nat.le_of_ble_eq_true rfl), (Nat.le_of_ble_eq_true rfl)⟩ ⟨(Nat.le_of_ble_eq_true rfl), (Nat.le_of_ble_eq_true rfl)⟩ dX4_offsetOf_96 (fun _ _ z => False.elim z) (fun v9 ws9 h169 => ?_)
                    obtain ⟨J171, etJ171, eJ171, rfl, hw9⟩ := h169
                    subst ws9
                    dsimp only [mPush]
                    have ho : f_off p1 p2 p3 = none := by first | exact f_off_n1 (fw18.mp (by first | assumption | exact Classical.not_not.mp (by assumption))) | exact f_off_n2 (fw59.mp (by first | assumption | exact Classical.not_not.mp (by assumption))) | exact f_off_n3 (fw59.mp (by first | assumption | exact Classical.not_not.mp (by assumption))) | exact f_off_n5 (fw64.mp (by first | assumption | exact Classical.not_not.mp (by assumption))) | exact f_off_n4 ⟨by first | exact Or.inl (by first | assumption | exact Int32.not_le.mp (by assumption)) | exact Or.inr (Or.inl (by first | assumption | exact Int32.not_le.mp (by assumption))) | exact Or.inr (Or.inr (by first | assumption | exact Int32.not_le.mp (by assumption))), by first | exact Or.inl (by first | assumption | exact Int32.not_le.mp (by assumption)) | exact Or.inr (Or.inl (by first | assumption | exact Int32.not_le.mp (by assumption))) | exact Or.inr (Or.inr (by first | assumption | exact Int32.not_le.mp (by assumption)))⟩
                    refine r_iret hX hE dX4_offsetOf_99 (Nat.le_of_ble_eq_true rfl) (Nat.le_of_ble_eq_true rfl) ⟨_, J171, Or.inl ⟨i10, hhi10, rfl, ?_, ?_, ?_⟩, (mWF2 eJ171 (mWF2 eJ7 hJ)), rfl, rfl⟩
                    · rw [etJ171]; exact etJ7.trans (by rw [hs9.1]; rfl)
                    · rw [ho]; exact ((congrArg Prod.fst eJ171).trans ((congrArg Prod.fst eJ7).trans rfl))
                    · rw [ho]; rfl
                  · refine r_iload hX dX4_offsetOf_90 rfl ?_
                    refine r_if_eq (tgt := 100) hX dX4_offsetOf_92 (by decide) (fun c172 => ?_) (fun c172 => absurd (by decide) c172)
                    refine r_sipush (v := 3600) hX dX4_offsetOf_100 (by decide) ?_
                    refine r_iload_n hX dX4_offsetOf_103 rfl rfl ?_
                    refine r_imul hX dX4_offsetOf_104 ?_
                    refine r_bipush (v := 60) hX dX4_offsetOf_105 (by decide) ?_
                    refine r_iload_n hX dX4_offsetOf_107 rfl rfl ?_
                    refine r_imul hX dX4_offsetOf_108 ?_
                    refine r_iadd hX dX4_offsetOf_109 ?_
                    refine r_iload hX dX4_offsetOf_110 rfl ?_
                    refine r_iadd hX dX4_offsetOf_112 ?_
                    rw [Int32.mul_comm 3600 p1, Int32.mul_comm 60 p2]
                    refine r_istore hX dX4_offsetOf_113 (by decide) rfl ?_
                    refine r_iload hX dX4_offsetOf_115 rfl ?_
                    refine r_i2l hX dX4_offsetOf_117 ?_
                    refine r_ldc2 hX kc_X4_64 dX4_offsetOf_118 ?_
                    refine r_ldc2 hX kc_X4_66 dX4_offsetOf_121 ?_
                    refine r_callS hX (c_X4_isIn _ _ _ _ _) ks_X4_38 rfl rfl (Nat.le_of_ble_eq_true rfl) ⟨(Nat.le_of_ble_eq_true rfl), (Nat.le_of_ble_eq_true rfl)⟩ ⟨(Nat.le_of_ble_eq_true rfl), (Nat.le_of_ble_eq_true rfl)⟩ dX4_offsetOf_124 (fun _ _ z => False.elim z) (fun v9 ws9 h173 => ?_)
                    obtain ⟨rfl, hw9⟩ := h173
                    subst ws9
                    dsimp only [mPush]
                    refine r_if_ne (tgt := 135) hX dX4_offsetOf_127 (by decide) (fun c175 => ?_) (fun c175 => ?_)
                    · refine r_aload_n hX dX4_offsetOf_135 rfl rfl ?_
                      refine r_get hX kf_X4_7 14 rfl rfl dX4_offsetOf_136 ?_
                      refine r_iload_n hX dX4_offsetOf_139 rfl rfl ?_
                      refine r_iload hX dX4_offsetOf_140 rfl ?_
                      refine r_iast hX 15 0 rfl rfl (vp_in_nI hhi10 (by decide)) dX4_offsetOf_142 ?_
                      refine r_eqw (ws' := mRw ad ae cs K (J7.1, upd J7.2.1 ((nI i10)).toNatClampNeg _, J7.2.2.1, J7.2.2.2.1, J7.2.2.2.2.1, J7.2.2.2.2.2.1, J7.2.2.2.2.2.2) rest) rfl ?_
                      refine r_iload hX dX4_offsetOf_143 rfl ?_
                      have ho : f_off p1 p2 p3 = some (p1 * 3600 + p2 * 60 + p3) := f_off_y (fun q => absurd (fw18.mpr q) (by assumption)) (fun q => absurd (fw59.mpr q) (by assumption)) (fun q => absurd (fw59.mpr q) (by assumption)) (by first | exact (fun q => q.1.elim (by first | assumption | exact Int32.not_lt.mpr (by assumption)) (fun q => q.elim (by first | assumption | exact Int32.not_lt.mpr (by assumption)) (by first | assumption | exact Int32.not_lt.mpr (by assumption)))) | exact (fun q => q.2.elim (by first | assumption | exact Int32.not_lt.mpr (by assumption)) (fun q => q.elim (by first | assumption | exact Int32.not_lt.mpr (by assumption)) (by first | assumption | exact Int32.not_lt.mpr (by assumption))))) (fun q => absurd (fw64.mpr q) (by assumption))
                      refine r_iret hX hE dX4_offsetOf_145 (Nat.le_of_ble_eq_true rfl) (Nat.le_of_ble_eq_true rfl) ⟨_, (J7.1, upd J7.2.1 ((nI i10)).toNatClampNeg _, J7.2.2.1, J7.2.2.2.1, J7.2.2.2.2.1, J7.2.2.2.2.2.1, J7.2.2.2.2.2.2), Or.inl ⟨i10, hhi10, rfl, ?_, ?_, ?_⟩, (show mWF J7 from (mWF2 eJ7 hJ)), rfl, rfl⟩
                      · exact etJ7.trans (by rw [hs9.1]; rfl)
                      · rw [ho]
                        show upd J7.2.1 (nI i10).toNatClampNeg _ = _
                        rw [nI_clamp (show i10 < 2 ^ 31 by omega), congrArg Prod.fst eJ7]; rfl
                      · rw [ho]; rfl
                    · refine r_aload_n hX dX4_offsetOf_130 rfl rfl ?_
                      refine r_callV hX (c_X4_no _ _ _ _ _ _) kv_X4_80 14 rfl rfl rfl rfl (Nat.le_of_ble_eq_true rfl) ⟨(Nat.le_of_ble_eq_true rfl), (Nat.le_of_ble_eq_true rfl)⟩ ⟨(Nat.le_of_ble_eq_true rfl), (Nat.le_of_ble_eq_true rfl)⟩ dX4_offsetOf_131 (fun _ _ z => False.elim z) (fun v9 ws9 h176 => ?_)
                      obtain ⟨J178, etJ178, eJ178, rfl, hw9⟩ := h176
                      subst ws9
                      dsimp only [mPush]
                      have ho : f_off p1 p2 p3 = none := by first | exact f_off_n1 (fw18.mp (by first | assumption | exact Classical.not_not.mp (by assumption))) | exact f_off_n2 (fw59.mp (by first | assumption | exact Classical.not_not.mp (by assumption))) | exact f_off_n3 (fw59.mp (by first | assumption | exact Classical.not_not.mp (by assumption))) | exact f_off_n5 (fw64.mp (by first | assumption | exact Classical.not_not.mp (by assumption))) | exact f_off_n4 ⟨by first | exact Or.inl (by first | assumption | exact Int32.not_le.mp (by assumption)) | exact Or.inr (Or.inl (by first | assumption | exact Int32.not_le.mp (by assumption))) | exact Or.inr (Or.inr (by first | assumption | exact Int32.not_le.mp (by assumption))), by first | exact Or.inl (by first | assumption | exact Int32.not_le.mp (by assumption)) | exact Or.inr (Or.inl (by first | assumption | exact Int32.not_le.mp (by assumption))) | exact Or.inr (Or.inr (by first | assumption | exact Int32.not_le.mp (by assumption)))⟩
                      refine r_iret hX hE dX4_offsetOf_134 (Nat.le_of_ble_eq_true rfl) (Nat.le_of_ble_eq_true rfl) ⟨_, J178, Or.inl ⟨i10, hhi10, rfl, ?_, ?_, ?_⟩, (mWF2 eJ178 (mWF2 eJ7 hJ)), rfl, rfl⟩
                      · rw [etJ178]; exact etJ7.trans (by rw [hs9.1]; rfl)
                      · rw [ho]; exact ((congrArg Prod.fst eJ178).trans ((congrArg Prod.fst eJ7).trans rfl))
                      · rw [ho]; rfl
            · refine r_iconst (v := 1) hX dX4_offsetOf_40 (by decide) ?_
              refine r_goto (tgt := 45) hX dX4_offsetOf_41 (by decide) ?_
              refine r_istore hX dX4_offsetOf_45 (by decide) rfl ?_
              refine r_iload_n hX dX4_offsetOf_47 rfl rfl ?_
              refine r_i2l hX dX4_offsetOf_48 ?_
              refine r_ldc2 hX kc_X4_72 dX4_offsetOf_49 ?_
              refine r_ldc2 hX kc_X4_74 dX4_offsetOf_52 ?_
              refine r_callS hX (c_X4_isIn _ _ _ _ _) ks_X4_38 rfl rfl (Nat.le_of_ble_eq_true rfl) ⟨(Nat.le_of_ble_eq_true rfl), (Nat.le_of_ble_eq_true rfl)⟩ ⟨(Nat.le_of_ble_eq_true rfl), (Nat.le_of_ble_eq_true rfl)⟩ dX4_offsetOf_55 (fun _ _ z => False.elim z) (fun v9 ws9 h179 => ?_)
              obtain ⟨rfl, hw9⟩ := h179
              subst ws9
              dsimp only [mPush]
              refine r_if_eq (tgt := 95) hX dX4_offsetOf_58 (by decide) (fun c181 => ?_) (fun c181 => ?_)
              · refine r_aload_n hX dX4_offsetOf_95 rfl rfl ?_
                refine r_callV hX (c_X4_no _ _ _ _ _ _) kv_X4_80 14 rfl rfl rfl rfl (Nat.le_of_ble_eq_true rfl) ⟨(Nat.le_of_ble_eq_true rfl), (Nat.le_of_ble_eq_true rfl)⟩ ⟨(Nat.le_of_ble_eq_true rfl), (Nat.le_of_ble_eq_true rfl)⟩ dX4_offsetOf_96 (fun _ _ z => False.elim z) (fun v9 ws9 h182 => ?_)
                obtain ⟨J184, etJ184, eJ184, rfl, hw9⟩ := h182
                subst ws9
                dsimp only [mPush]
                have ho : f_off p1 p2 p3 = none := by first | exact f_off_n1 (fw18.mp (by first | assumption | exact Classical.not_not.mp (by assumption))) | exact f_off_n2 (fw59.mp (by first | assumption | exact Classical.not_not.mp (by assumption))) | exact f_off_n3 (fw59.mp (by first | assumption | exact Classical.not_not.mp (by assumption))) | exact f_off_n5 (fw64.mp (by first | assumption | exact Classical.not_not.mp (by assumption))) | exact f_off_n4 ⟨by first | exact Or.inl (by first | assumption | exact Int32.not_le.mp (by assumption)) | exact Or.inr (Or.inl (by first | assumption | exact Int32.not_le.mp (by assumption))) | exact Or.inr (Or.inr (by first | assumption | exact Int32.not_le.mp (by assumption))), by first | exact Or.inl (by first | assumption | exact Int32.not_le.mp (by assumption)) | exact Or.inr (Or.inl (by first | assumption | exact Int32.not_le.mp (by assumption))) | exact Or.inr (Or.inr (by first | assumption | exact Int32.not_le.mp (by assumption)))⟩
                refine r_iret hX hE dX4_offsetOf_99 (Nat.le_of_ble_eq_true rfl) (Nat.le_of_ble_eq_true rfl) ⟨_, J184, Or.inl ⟨i10, hhi10, rfl, ?_, ?_, ?_⟩, (mWF2 eJ184 (mWF2 eJ7 hJ)), rfl, rfl⟩
                · rw [etJ184]; exact etJ7.trans (by rw [hs9.1]; rfl)
                · rw [ho]; exact ((congrArg Prod.fst eJ184).trans ((congrArg Prod.fst eJ7).trans rfl))
                · rw [ho]; rfl
              · refine r_iload_n hX dX4_offsetOf_61 rfl rfl ?_
                refine r_i2l hX dX4_offsetOf_62 ?_
                refine r_ldc2 hX kc_X4_76 dX4_offsetOf_63 ?_
                refine r_ldc2 hX kc_X4_78 dX4_offsetOf_66 ?_
                refine r_callS hX (c_X4_isIn _ _ _ _ _) ks_X4_38 rfl rfl (Nat.le_of_ble_eq_true rfl) ⟨(Nat.le_of_ble_eq_true rfl), (Nat.le_of_ble_eq_true rfl)⟩ ⟨(Nat.le_of_ble_eq_true rfl), (Nat.le_of_ble_eq_true rfl)⟩ dX4_offsetOf_69 (fun _ _ z => False.elim z) (fun v9 ws9 h185 => ?_)
                obtain ⟨rfl, hw9⟩ := h185
                subst ws9
                dsimp only [mPush]
                refine r_if_eq (tgt := 95) hX dX4_offsetOf_72 (by decide) (fun c187 => ?_) (fun c187 => ?_)
                · refine r_aload_n hX dX4_offsetOf_95 rfl rfl ?_
                  refine r_callV hX (c_X4_no _ _ _ _ _ _) kv_X4_80 14 rfl rfl rfl rfl (Nat.le_of_ble_eq_true rfl) ⟨(Nat.le_of_ble_eq_true rfl), (Nat.le_of_ble_eq_true rfl)⟩ ⟨(Nat.le_of_ble_eq_true rfl), (Nat.le_of_ble_eq_true rfl)⟩ dX4_offsetOf_96 (fun _ _ z => False.elim z) (fun v9 ws9 h188 => ?_)
                  obtain ⟨J190, etJ190, eJ190, rfl, hw9⟩ := h188
                  subst ws9
                  dsimp only [mPush]
                  have ho : f_off p1 p2 p3 = none := by first | exact f_off_n1 (fw18.mp (by first | assumption | exact Classical.not_not.mp (by assumption))) | exact f_off_n2 (fw59.mp (by first | assumption | exact Classical.not_not.mp (by assumption))) | exact f_off_n3 (fw59.mp (by first | assumption | exact Classical.not_not.mp (by assumption))) | exact f_off_n5 (fw64.mp (by first | assumption | exact Classical.not_not.mp (by assumption))) | exact f_off_n4 ⟨by first | exact Or.inl (by first | assumption | exact Int32.not_le.mp (by assumption)) | exact Or.inr (Or.inl (by first | assumption | exact Int32.not_le.mp (by assumption))) | exact Or.inr (Or.inr (by first | assumption | exact Int32.not_le.mp (by assumption))), by first | exact Or.inl (by first | assumption | exact Int32.not_le.mp (by assumption)) | exact Or.inr (Or.inl (by first | assumption | exact Int32.not_le.mp (by assumption))) | exact Or.inr (Or.inr (by first | assumption | exact Int32.not_le.mp (by assumption)))⟩
                  refine r_iret hX hE dX4_offsetOf_99 (Nat.le_of_ble_eq_true rfl) (Nat.le_of_ble_eq_true rfl) ⟨_, J190, Or.inl ⟨i10, hhi10, rfl, ?_, ?_, ?_⟩, (mWF2 eJ190 (mWF2 eJ7 hJ)), rfl, rfl⟩
                  · rw [etJ190]; exact etJ7.trans (by rw [hs9.1]; rfl)
                  · rw [ho]; exact ((congrArg Prod.fst eJ190).trans ((congrArg Prod.fst eJ7).trans rfl))
                  · rw [ho]; rfl
                · refine r_iload hX dX4_offsetOf_75 rfl ?_
                  refine r_i2l hX dX4_offsetOf_77 ?_
                  refine r_ldc2 hX kc_X4_76 dX4_offsetOf_78 ?_
                  refine r_ldc2 hX kc_X4_78 dX4_offsetOf_81 ?_
                  refine r_callS hX (c_X4_isIn _ _ _ _ _) ks_X4_38 rfl rfl (Nat.le_of_ble_eq_true rfl) ⟨(Nat.le_of_ble_eq_true rfl), (Nat.le_of_ble_eq_true rfl)⟩ ⟨(Nat.le_of_ble_eq_true rfl), (Nat.le_of_ble_eq_true rfl)⟩ dX4_offsetOf_84 (fun _ _ z => False.elim z) (fun v9 ws9 h191 => ?_)
                  obtain ⟨rfl, hw9⟩ := h191
                  subst ws9
                  dsimp only [mPush]
                  refine r_if_eq (tgt := 95) hX dX4_offsetOf_87 (by decide) (fun c193 => ?_) (fun c193 => ?_)
                  · refine r_aload_n hX dX4_offsetOf_95 rfl rfl ?_
                    refine r_callV hX (c_X4_no _ _ _ _ _ _) kv_X4_80 14 rfl rfl rfl rfl (Nat.le_of_ble_eq_true rfl) ⟨(Nat.le_of_ble_eq_true rfl), (Nat.le_of_ble_eq_true rfl)⟩ ⟨(Nat.le_of_ble_eq_true rfl), (Nat.le_of_ble_eq_true rfl)⟩ dX4_offsetOf_96 (fun _ _ z => False.elim z) (fun v9 ws9 h194 => ?_)
                    obtain ⟨J196, etJ196, eJ196, rfl, hw9⟩ := h194
                    subst ws9
                    dsimp only [mPush]
                    have ho : f_off p1 p2 p3 = none := by first | exact f_off_n1 (fw18.mp (by first | assumption | exact Classical.not_not.mp (by assumption))) | exact f_off_n2 (fw59.mp (by first | assumption | exact Classical.not_not.mp (by assumption))) | exact f_off_n3 (fw59.mp (by first | assumption | exact Classical.not_not.mp (by assumption))) | exact f_off_n5 (fw64.mp (by first | assumption | exact Classical.not_not.mp (by assumption))) | exact f_off_n4 ⟨by first | exact Or.inl (by first | assumption | exact Int32.not_le.mp (by assumption)) | exact Or.inr (Or.inl (by first | assumption | exact Int32.not_le.mp (by assumption))) | exact Or.inr (Or.inr (by first | assumption | exact Int32.not_le.mp (by assumption))), by first | exact Or.inl (by first | assumption | exact Int32.not_le.mp (by assumption)) | exact Or.inr (Or.inl (by first | assumption | exact Int32.not_le.mp (by assumption))) | exact Or.inr (Or.inr (by first | assumption | exact Int32.not_le.mp (by assumption)))⟩
                    refine r_iret hX hE dX4_offsetOf_99 (Nat.le_of_ble_eq_true rfl) (Nat.le_of_ble_eq_true rfl) ⟨_, J196, Or.inl ⟨i10, hhi10, rfl, ?_, ?_, ?_⟩, (mWF2 eJ196 (mWF2 eJ7 hJ)), rfl, rfl⟩
                    · rw [etJ196]; exact etJ7.trans (by rw [hs9.1]; rfl)
                    · rw [ho]; exact ((congrArg Prod.fst eJ196).trans ((congrArg Prod.fst eJ7).trans rfl))
                    · rw [ho]; rfl
                  · refine r_iload hX dX4_offsetOf_90 rfl ?_
                    refine r_if_eq (tgt := 100) hX dX4_offsetOf_92 (by decide) (fun c197 => absurd c197 (by decide)) (fun c197 => ?_)
                    refine r_aload_n hX dX4_offsetOf_95 rfl rfl ?_
                    refine r_callV hX (c_X4_no _ _ _ _ _ _) kv_X4_80 14 rfl rfl rfl rfl (Nat.le_of_ble_eq_true rfl) ⟨(Nat.le_of_ble_eq_true rfl), (Nat.le_of_ble_eq_true rfl)⟩ ⟨(Nat.le_of_ble_eq_true rfl), (Nat.le_of_ble_eq_true rfl)⟩ dX4_offsetOf_96 (fun _ _ z => False.elim z) (fun v9 ws9 h198 => ?_)
                    obtain ⟨J200, etJ200, eJ200, rfl, hw9⟩ := h198
                    subst ws9
                    dsimp only [mPush]
                    have ho : f_off p1 p2 p3 = none := by first | exact f_off_n1 (fw18.mp (by first | assumption | exact Classical.not_not.mp (by assumption))) | exact f_off_n2 (fw59.mp (by first | assumption | exact Classical.not_not.mp (by assumption))) | exact f_off_n3 (fw59.mp (by first | assumption | exact Classical.not_not.mp (by assumption))) | exact f_off_n5 (fw64.mp (by first | assumption | exact Classical.not_not.mp (by assumption))) | exact f_off_n4 ⟨by first | exact Or.inl (by first | assumption | exact Int32.not_le.mp (by assumption)) | exact Or.inr (Or.inl (by first | assumption | exact Int32.not_le.mp (by assumption))) | exact Or.inr (Or.inr (by first | assumption | exact Int32.not_le.mp (by assumption))), by first | exact Or.inl (by first | assumption | exact Int32.not_le.mp (by assumption)) | exact Or.inr (Or.inl (by first | assumption | exact Int32.not_le.mp (by assumption))) | exact Or.inr (Or.inr (by first | assumption | exact Int32.not_le.mp (by assumption)))⟩
                    refine r_iret hX hE dX4_offsetOf_99 (Nat.le_of_ble_eq_true rfl) (Nat.le_of_ble_eq_true rfl) ⟨_, J200, Or.inl ⟨i10, hhi10, rfl, ?_, ?_, ?_⟩, (mWF2 eJ200 (mWF2 eJ7 hJ)), rfl, rfl⟩
                    · rw [etJ200]; exact etJ7.trans (by rw [hs9.1]; rfl)
                    · rw [ho]; exact ((congrArg Prod.fst eJ200).trans ((congrArg Prod.fst eJ7).trans rfl))
                    · rw [ho]; rfl
      · refine r_iload hX dX4_offsetOf_22 rfl ?_
        refine r_if_le (tgt := 44) hX dX4_offsetOf_24 (by decide) (fun c201 => ?_) (fun c201 => ?_)
        · refine r_iconst (v := 0) hX dX4_offsetOf_44 (by decide) ?_
          refine r_istore hX dX4_offsetOf_45 (by decide) rfl ?_
          refine r_iload_n hX dX4_offsetOf_47 rfl rfl ?_
          refine r_i2l hX dX4_offsetOf_48 ?_
          refine r_ldc2 hX kc_X4_72 dX4_offsetOf_49 ?_
          refine r_ldc2 hX kc_X4_74 dX4_offsetOf_52 ?_
          refine r_callS hX (c_X4_isIn _ _ _ _ _) ks_X4_38 rfl rfl (Nat.le_of_ble_eq_true rfl) ⟨(Nat.le_of_ble_eq_true rfl), (Nat.le_of_ble_eq_true rfl)⟩ ⟨(Nat.le_of_ble_eq_true rfl), (Nat.le_of_ble_eq_true rfl)⟩ dX4_offsetOf_55 (fun _ _ z => False.elim z) (fun v9 ws9 h202 => ?_)
          obtain ⟨rfl, hw9⟩ := h202
          subst ws9
          dsimp only [mPush]
          refine r_if_eq (tgt := 95) hX dX4_offsetOf_58 (by decide) (fun c204 => ?_) (fun c204 => ?_)
          · refine r_aload_n hX dX4_offsetOf_95 rfl rfl ?_
            refine r_callV hX (c_X4_no _ _ _ _ _ _) kv_X4_80 14 rfl rfl rfl rfl (Nat.le_of_ble_eq_true rfl) ⟨(Nat.le_of_ble_eq_true rfl), (Nat.le_of_ble_eq_true rfl)⟩ ⟨(Nat.le_of_ble_eq_true rfl), (Nat.le_of_ble_eq_true rfl)⟩ dX4_offsetOf_96 (fun _ _ z => False.elim z) (fun v9 ws9 h205 => ?_)
            obtain ⟨J207, etJ207, eJ207, rfl, hw9⟩ := h205
            subst ws9
            dsimp only [mPush]
            have ho : f_off p1 p2 p3 = none := by first | exact f_off_n1 (fw18.mp (by first | assumption | exact Classical.not_not.mp (by assumption))) | exact f_off_n2 (fw59.mp (by first | assumption | exact Classical.not_not.mp (by assumption))) | exact f_off_n3 (fw59.mp (by first | assumption | exact Classical.not_not.mp (by assumption))) | exact f_off_n5 (fw64.mp (by first | assumption | exact Classical.not_not.mp (by assumption))) | exact f_off_n4 ⟨by first | exact Or.inl (by first | assumption | exact Int32.not_le.mp (by assumption)) | exact Or.inr (Or.inl (by first | assumption | exact Int32.not_le.mp (by assumption))) | exact Or.inr (Or.inr (by first | assumption | exact Int32.not_le.mp (by assumption))), by first | exact Or.inl (by first | assumption | exact Int32.not_le.mp (by assumption)) | exact Or.inr (Or.inl (by first | assumption | exact Int32.not_le.mp (by assumption))) | exact Or.inr (Or.inr (by first | assumption | exact Int32.not_le.mp (by assumption)))⟩
            refine r_iret hX hE dX4_offsetOf_99 (Nat.le_of_ble_eq_true rfl) (Nat.le_of_ble_eq_true rfl) ⟨_, J207, Or.inl ⟨i10, hhi10, rfl, ?_, ?_, ?_⟩, (mWF2 eJ207 (mWF2 eJ7 hJ)), rfl, rfl⟩
            · rw [etJ207]; exact etJ7.trans (by rw [hs9.1]; rfl)
            · rw [ho]; exact ((congrArg Prod.fst eJ207).trans ((congrArg Prod.fst eJ7).trans rfl))
            · rw [ho]; rfl
          · refine r_iload_n hX dX4_offsetOf_61 rfl rfl ?_
            refine r_i2l hX dX4_offsetOf_62 ?_
            refine r_ldc2 hX kc_X4_76 dX4_offsetOf_63 ?_
            refine r_ldc2 hX kc_X4_78 dX4_offsetOf_66 ?_
            refine r_callS hX (c_X4_isIn _ _ _ _ _) ks_X4_38 rfl rfl (Nat.le_of_ble_eq_true rfl) ⟨(Nat.le_of_ble_eq_true rfl), (Nat.le_of_ble_eq_true rfl)⟩ ⟨(Nat.le_of_ble_eq_true rfl), (Nat.le_of_ble_eq_true rfl)⟩ dX4_offsetOf_69 (fun _ _ z => False.elim z) (fun v9 ws9 h208 => ?_)
            obtain ⟨rfl, hw9⟩ := h208
            subst ws9
            dsimp only [mPush]
            refine r_if_eq (tgt := 95) hX dX4_offsetOf_72 (by decide) (fun c210 => ?_) (fun c210 => ?_)
            · refine r_aload_n hX dX4_offsetOf_95 rfl rfl ?_
              refine r_callV hX (c_X4_no _ _ _ _ _ _) kv_X4_80 14 rfl rfl rfl rfl (Nat.le_of_ble_eq_true rfl) ⟨(Nat.le_of_ble_eq_true rfl), (Nat.le_of_ble_eq_true rfl)⟩ ⟨(Nat.le_of_ble_eq_true rfl), (Nat.le_of_ble_eq_true rfl)⟩ dX4_offsetOf_96 (fun _ _ z => False.elim z) (fun v9 ws9 h211 => ?_)
              obtain ⟨J213, etJ213, eJ213, rfl, hw9⟩ := h211
              subst ws9
              dsimp only [mPush]
              have ho : f_off p1 p2 p3 = none := by first | exact f_off_n1 (fw18.mp (by first | assumption | exact Classical.not_not.mp (by assumption))) | exact f_off_n2 (fw59.mp (by first | assumption | exact Classical.not_not.mp (by assumption))) | exact f_off_n3 (fw59.mp (by first | assumption | exact Classical.not_not.mp (by assumption))) | exact f_off_n5 (fw64.mp (by first | assumption | exact Classical.not_not.mp (by assumption))) | exact f_off_n4 ⟨by first | exact Or.inl (by first | assumption | exact Int32.not_le.mp (by assumption)) | exact Or.inr (Or.inl (by first | assumption | exact Int32.not_le.mp (by assumption))) | exact Or.inr (Or.inr (by first | assumption | exact Int32.not_le.mp (by assumption))), by first | exact Or.inl (by first | assumption | exact Int32.not_le.mp (by assumption)) | exact Or.inr (Or.inl (by first | assumption | exact Int32.not_le.mp (by assumption))) | exact Or.inr (Or.inr (by first | assumption | exact Int32.not_le.mp (by assumption)))⟩
              refine r_iret hX hE dX4_offsetOf_99 (Nat.le_of_ble_eq_true rfl) (Nat.le_of_ble_eq_true rfl) ⟨_, J213, Or.inl ⟨i10, hhi10, rfl, ?_, ?_, ?_⟩, (mWF2 eJ213 (mWF2 eJ7 hJ)), rfl, rfl⟩
              · rw [etJ213]; exact etJ7.trans (by rw [hs9.1]; rfl)
              · rw [ho]; exact ((congrArg Prod.fst eJ213).trans ((congrArg Prod.fst eJ7).trans rfl))
              · rw [ho]; rfl
            · refine r_iload hX dX4_offsetOf_75 rfl ?_
              refine r_i2l hX dX4_offsetOf_77 ?_
              refine r_ldc2 hX kc_X4_76 dX4_offsetOf_78 ?_
              refine r_ldc2 hX kc_X4_78 dX4_offsetOf_81 ?_
              refine r_callS hX (c_X4_isIn _ _ _ _ _) ks_X4_38 rfl rfl (Nat.le_of_ble_eq_true rfl) ⟨(Nat.le_of_ble_eq_true rfl), (Nat.le_of_ble_eq_true rfl)⟩ ⟨(Nat.le_of_ble_eq_true rfl), (Nat.le_of_ble_eq_true rfl)⟩ dX4_offsetOf_84 (fun _ _ z => False.elim z) (fun v9 ws9 h214 => ?_)
              obtain ⟨rfl, hw9⟩ := h214
              subst ws9
              dsimp only [mPush]
              refine r_if_eq (tgt := 95) hX dX4_offsetOf_87 (by decide) (fun c216 => ?_) (fun c216 => ?_)
              · refine r_aload_n hX dX4_offsetOf_95 rfl rfl ?_
                refine r_callV hX (c_X4_no _ _ _ _ _ _) kv_X4_80 14 rfl rfl rfl rfl (Nat.le_of_ble_eq_true rfl) ⟨(Nat.le_of_ble_eq_true rfl), (Nat.le_of_ble_eq_true rfl)⟩ ⟨(Nat.le_of_ble_eq_true rfl), (Nat.le_of_ble_eq_true rfl)⟩ dX4_offsetOf_96 (fun _ _ z => False.elim z) (fun v9 ws9 h217 => ?_)
                obtain ⟨J219, etJ219, eJ219, rfl, hw9⟩ := h217
                subst ws9
                dsimp only [mPush]
                have ho : f_off p1 p2 p3 = none := by first | exact f_off_n1 (fw18.mp (by first | assumption | exact Classical.not_not.mp (by assumption))) | exact f_off_n2 (fw59.mp (by first | assumption | exact Classical.not_not.mp (by assumption))) | exact f_off_n3 (fw59.mp (by first | assumption | exact Classical.not_not.mp (by assumption))) | exact f_off_n5 (fw64.mp (by first | assumption | exact Classical.not_not.mp (by assumption))) | exact f_off_n4 ⟨by first | exact Or.inl (by first | assumption | exact Int32.not_le.mp (by assumption)) | exact Or.inr (Or.inl (by first | assumption | exact Int32.not_le.mp (by assumption))) | exact Or.inr (Or.inr (by first | assumption | exact Int32.not_le.mp (by assumption))), by first | exact Or.inl (by first | assumption | exact Int32.not_le.mp (by assumption)) | exact Or.inr (Or.inl (by first | assumption | exact Int32.not_le.mp (by assumption))) | exact Or.inr (Or.inr (by first | assumption | exact Int32.not_le.mp (by assumption)))⟩
                refine r_iret hX hE dX4_offsetOf_99 (Nat.le_of_ble_eq_true rfl) (Nat.le_of_ble_eq_true rfl) ⟨_, J219, Or.inl ⟨i10, hhi10, rfl, ?_, ?_, ?_⟩, (mWF2 eJ219 (mWF2 eJ7 hJ)), rfl, rfl⟩
                · rw [etJ219]; exact etJ7.trans (by rw [hs9.1]; rfl)
                · rw [ho]; exact ((congrArg Prod.fst eJ219).trans ((congrArg Prod.fst eJ7).trans rfl))
                · rw [ho]; rfl
              · refine r_iload hX dX4_offsetOf_90 rfl ?_
                refine r_if_eq (tgt := 100) hX dX4_offsetOf_92 (by decide) (fun c220 => ?_) (fun c220 => absurd (by decide) c220)
                refine r_sipush (v := 3600) hX dX4_offsetOf_100 (by decide) ?_
                refine r_iload_n hX dX4_offsetOf_103 rfl rfl ?_
                refine r_imul hX dX4_offsetOf_104 ?_
                refine r_bipush (v := 60) hX dX4_offsetOf_105 (by decide) ?_
                refine r_iload_n hX dX4_offsetOf_107 rfl rfl ?_
                refine r_imul hX dX4_offsetOf_108 ?_
                refine r_iadd hX dX4_offsetOf_109 ?_
                refine r_iload hX dX4_offsetOf_110 rfl ?_
                refine r_iadd hX dX4_offsetOf_112 ?_
                rw [Int32.mul_comm 3600 p1, Int32.mul_comm 60 p2]
                refine r_istore hX dX4_offsetOf_113 (by decide) rfl ?_
                refine r_iload hX dX4_offsetOf_115 rfl ?_
                refine r_i2l hX dX4_offsetOf_117 ?_
                refine r_ldc2 hX kc_X4_64 dX4_offsetOf_118 ?_
                refine r_ldc2 hX kc_X4_66 dX4_offsetOf_121 ?_
                refine r_callS hX (c_X4_isIn _ _ _ _ _) ks_X4_38 rfl rfl (Nat.le_of_ble_eq_true rfl) ⟨(Nat.le_of_ble_eq_true rfl), (Nat.le_of_ble_eq_true rfl)⟩ ⟨(Nat.le_of_ble_eq_true rfl), (Nat.le_of_ble_eq_true rfl)⟩ dX4_offsetOf_124 (fun _ _ z => False.elim z) (fun v9 ws9 h221 => ?_)
                obtain ⟨rfl, hw9⟩ := h221
                subst ws9
                dsimp only [mPush]
                refine r_if_ne (tgt := 135) hX dX4_offsetOf_127 (by decide) (fun c223 => ?_) (fun c223 => ?_)
                · refine r_aload_n hX dX4_offsetOf_135 rfl rfl ?_
                  refine r_get hX kf_X4_7 14 rfl rfl dX4_offsetOf_136 ?_
                  refine r_iload_n hX dX4_offsetOf_139 rfl rfl ?_
                  refine r_iload hX dX4_offsetOf_140 rfl ?_
                  refine r_iast hX 15 0 rfl rfl (vp_in_nI hhi10 (by decide)) dX4_offsetOf_142 ?_
                  refine r_eqw (ws' := mRw ad ae cs K (J7.1, upd J7.2.1 ((nI i10)).toNatClampNeg _, J7.2.2.1, J7.2.2.2.1, J7.2.2.2.2.1, J7.2.2.2.2.2.1, J7.2.2.2.2.2.2) rest) rfl ?_
                  refine r_iload hX dX4_offsetOf_143 rfl ?_
                  have ho : f_off p1 p2 p3 = some (p1 * 3600 + p2 * 60 + p3) := f_off_y (fun q => absurd (fw18.mpr q) (by assumption)) (fun q => absurd (fw59.mpr q) (by assumption)) (fun q => absurd (fw59.mpr q) (by assumption)) (by first | exact (fun q => q.1.elim (by first | assumption | exact Int32.not_lt.mpr (by assumption)) (fun q => q.elim (by first | assumption | exact Int32.not_lt.mpr (by assumption)) (by first | assumption | exact Int32.not_lt.mpr (by assumption)))) | exact (fun q => q.2.elim (by first | assumption | exact Int32.not_lt.mpr (by assumption)) (fun q => q.elim (by first | assumption | exact Int32.not_lt.mpr (by assumption)) (by first | assumption | exact Int32.not_lt.mpr (by assumption))))) (fun q => absurd (fw64.mpr q) (by assumption))
                  refine r_iret hX hE dX4_offsetOf_145 (Nat.le_of_ble_eq_true rfl) (Nat.le_of_ble_eq_true rfl) ⟨_, (J7.1, upd J7.2.1 ((nI i10)).toNatClampNeg _, J7.2.2.1, J7.2.2.2.1, J7.2.2.2.2.1, J7.2.2.2.2.2.1, J7.2.2.2.2.2.2), Or.inl ⟨i10, hhi10, rfl, ?_, ?_, ?_⟩, (show mWF J7 from (mWF2 eJ7 hJ)), rfl, rfl⟩
                  · exact etJ7.trans (by rw [hs9.1]; rfl)
                  · rw [ho]
                    show upd J7.2.1 (nI i10).toNatClampNeg _ = _
                    rw [nI_clamp (show i10 < 2 ^ 31 by omega), congrArg Prod.fst eJ7]; rfl
                  · rw [ho]; rfl
                · refine r_aload_n hX dX4_offsetOf_130 rfl rfl ?_
                  refine r_callV hX (c_X4_no _ _ _ _ _ _) kv_X4_80 14 rfl rfl rfl rfl (Nat.le_of_ble_eq_true rfl) ⟨(Nat.le_of_ble_eq_true rfl), (Nat.le_of_ble_eq_true rfl)⟩ ⟨(Nat.le_of_ble_eq_true rfl), (Nat.le_of_ble_eq_true rfl)⟩ dX4_offsetOf_131 (fun _ _ z => False.elim z) (fun v9 ws9 h224 => ?_)
                  obtain ⟨J226, etJ226, eJ226, rfl, hw9⟩ := h224
                  subst ws9
                  dsimp only [mPush]
                  have ho : f_off p1 p2 p3 = none := by first | exact f_off_n1 (fw18.mp (by first | assumption | exact Classical.not_not.mp (by assumption))) | exact f_off_n2 (fw59.mp (by first | assumption | exact Classical.not_not.mp (by assumption))) | exact f_off_n3 (fw59.mp (by first | assumption | exact Classical.not_not.mp (by assumption))) | exact f_off_n5 (fw64.mp (by first | assumption | exact Classical.not_not.mp (by assumption))) | exact f_off_n4 ⟨by first | exact Or.inl (by first | assumption | exact Int32.not_le.mp (by assumption)) | exact Or.inr (Or.inl (by first | assumption | exact Int32.not_le.mp (by assumption))) | exact Or.inr (Or.inr (by first | assumption | exact Int32.not_le.mp (by assumption))), by first | exact Or.inl (by first | assumption | exact Int32.not_le.mp (by assumption)) | exact Or.inr (Or.inl (by first | assumption | exact Int32.not_le.mp (by assumption))) | exact Or.inr (Or.inr (by first | assumption | exact Int32.not_le.mp (by assumption)))⟩
                  refine r_iret hX hE dX4_offsetOf_134 (Nat.le_of_ble_eq_true rfl) (Nat.le_of_ble_eq_true rfl) ⟨_, J226, Or.inl ⟨i10, hhi10, rfl, ?_, ?_, ?_⟩, (mWF2 eJ226 (mWF2 eJ7 hJ)), rfl, rfl⟩
                  · rw [etJ226]; exact etJ7.trans (by rw [hs9.1]; rfl)
                  · rw [ho]; exact ((congrArg Prod.fst eJ226).trans ((congrArg Prod.fst eJ7).trans rfl))
                  · rw [ho]; rfl
        · refine r_iload_n hX dX4_offsetOf_27 rfl rfl ?_
          refine r_if_lt (tgt := 40) hX dX4_offsetOf_28 (by decide) (fun c227 => ?_) (fun c227 => ?_)
          · refine r_iconst (v := 1) hX dX4_offsetOf_40 (by decide) ?_
            refine r_goto (tgt := 45) hX dX4_offsetOf_41 (by decide) ?_
            refine r_istore hX dX4_offsetOf_45 (by decide) rfl ?_
            refine r_iload_n hX dX4_offsetOf_47 rfl rfl ?_
            refine r_i2l hX dX4_offsetOf_48 ?_
            refine r_ldc2 hX kc_X4_72 dX4_offsetOf_49 ?_
            refine r_ldc2 hX kc_X4_74 dX4_offsetOf_52 ?_
            refine r_callS hX (c_X4_isIn _ _ _ _ _) ks_X4_38 rfl rfl (Nat.le_of_ble_eq_true rfl) ⟨(Nat.le_of_ble_eq_true rfl), (Nat.le_of_ble_eq_true rfl)⟩ ⟨(Nat.le_of_ble_eq_true rfl), (Nat.le_of_ble_eq_true rfl)⟩ dX4_offsetOf_55 (fun _ _ z => False.elim z) (fun v9 ws9 h228 => ?_)
            obtain ⟨rfl, hw9⟩ := h228
            subst ws9
            dsimp only [mPush]
            refine r_if_eq (tgt := 95) hX dX4_offsetOf_58 (by decide) (fun c230 => ?_) (fun c230 => ?_)
            · refine r_aload_n hX dX4_offsetOf_95 rfl rfl ?_
              refine r_callV hX (c_X4_no _ _ _ _ _ _) kv_X4_80 14 rfl rfl rfl rfl (Nat.le_of_ble_eq_true rfl) ⟨(Nat.le_of_ble_eq_true rfl), (Nat.le_of_ble_eq_true rfl)⟩ ⟨(Nat.le_of_ble_eq_true rfl), (Nat.le_of_ble_eq_true rfl)⟩ dX4_offsetOf_96 (fun _ _ z => False.elim z) (fun v9 ws9 h231 => ?_)
              obtain ⟨J233, etJ233, eJ233, rfl, hw9⟩ := h231
              subst ws9
              dsimp only [mPush]
              have ho : f_off p1 p2 p3 = none := by first | exact f_off_n1 (fw18.mp (by first | assumption | exact Classical.not_not.mp (by assumption))) | exact f_off_n2 (fw59.mp (by first | assumption | exact Classical.not_not.mp (by assumption))) | exact f_off_n3 (fw59.mp (by first | assumption | exact Classical.not_not.mp (by assumption))) | exact f_off_n5 (fw64.mp (by first | assumption | exact Classical.not_not.mp (by assumption))) | exact f_off_n4 ⟨by first | exact Or.inl (by first | assumption | exact Int32.not_le.mp (by assumption)) | exact Or.inr (Or.inl (by first | assumption | exact Int32.not_le.mp (by assumption))) | exact Or.inr (Or.inr (by first | assumption | exact Int32.not_le.mp (by assumption))), by first | exact Or.inl (by first | assumption | exact Int32.not_le.mp (by assumption)) | exact Or.inr (Or.inl (by first | assumption | exact Int32.not_le.mp (by assumption))) | exact Or.inr (Or.inr (by first | assumption | exact Int32.not_le.mp (by assumption)))⟩
              refine r_iret hX hE dX4_offsetOf_99 (Nat.le_of_ble_eq_true rfl) (Nat.le_of_ble_eq_true rfl) ⟨_, J233, Or.inl ⟨i10, hhi10, rfl, ?_, ?_, ?_⟩, (mWF2 eJ233 (mWF2 eJ7 hJ)), rfl, rfl⟩
              · rw [etJ233]; exact etJ7.trans (by rw [hs9.1]; rfl)
              · rw [ho]; exact ((congrArg Prod.fst eJ233).trans ((congrArg Prod.fst eJ7).trans rfl))
              · rw [ho]; rfl
            · refine r_iload_n hX dX4_offsetOf_61 rfl rfl ?_
              refine r_i2l hX dX4_offsetOf_62 ?_
              refine r_ldc2 hX kc_X4_76 dX4_offsetOf_63 ?_
              refine r_ldc2 hX kc_X4_78 dX4_offsetOf_66 ?_
              refine r_callS hX (c_X4_isIn _ _ _ _ _) ks_X4_38 rfl rfl (Nat.le_of_ble_eq_true rfl) ⟨(Nat.le_of_ble_eq_true rfl), (Nat.le_of_ble_eq_true rfl)⟩ ⟨(Nat.le_of_ble_eq_true rfl), (Nat.le_of_ble_eq_true rfl)⟩ dX4_offsetOf_69 (fun _ _ z => False.elim z) (fun v9 ws9 h234 => ?_)
              obtain ⟨rfl, hw9⟩ := h234
              subst ws9
              dsimp only [mPush]
              refine r_if_eq (tgt := 95) hX dX4_offsetOf_72 (by decide) (fun c236 => ?_) (fun c236 => ?_)
              · refine r_aload_n hX dX4_offsetOf_95 rfl rfl ?_
                refine r_callV hX (c_X4_no _ _ _ _ _ _) kv_X4_80 14 rfl rfl rfl rfl (Nat.le_of_ble_eq_true rfl) ⟨(Nat.le_of_ble_eq_true rfl), (Nat.le_of_ble_eq_true rfl)⟩ ⟨(Nat.le_of_ble_eq_true rfl), (Nat.le_of_ble_eq_true rfl)⟩ dX4_offsetOf_96 (fun _ _ z => False.elim z) (fun v9 ws9 h237 => ?_)
                obtain ⟨J239, etJ239, eJ239, rfl, hw9⟩ := h237
                subst ws9
                dsimp only [mPush]
                have ho : f_off p1 p2 p3 = none := by first | exact f_off_n1 (fw18.mp (by first | assumption | exact Classical.not_not.mp (by assumption))) | exact f_off_n2 (fw59.mp (by first | assumption | exact Classical.not_not.mp (by assumption))) | exact f_off_n3 (fw59.mp (by first | assumption | exact Classical.not_not.mp (by assumption))) | exact f_off_n5 (fw64.mp (by first | assumption | exact Classical.not_not.mp (by assumption))) | exact f_off_n4 ⟨by first | exact Or.inl (by first | assumption | exact Int32.not_le.mp (by assumption)) | exact Or.inr (Or.inl (by first | assumption | exact Int32.not_le.mp (by assumption))) | exact Or.inr (Or.inr (by first | assumption | exact Int32.not_le.mp (by assumption))), by first | exact Or.inl (by first | assumption | exact Int32.not_le.mp (by assumption)) | exact Or.inr (Or.inl (by first | assumption | exact Int32.not_le.mp (by assumption))) | exact Or.inr (Or.inr (by first | assumption | exact Int32.not_le.mp (by assumption)))⟩
                refine r_iret hX hE dX4_offsetOf_99 (Nat.le_of_ble_eq_true rfl) (Nat.le_of_ble_eq_true rfl) ⟨_, J239, Or.inl ⟨i10, hhi10, rfl, ?_, ?_, ?_⟩, (mWF2 eJ239 (mWF2 eJ7 hJ)), rfl, rfl⟩
                · rw [etJ239]; exact etJ7.trans (by rw [hs9.1]; rfl)
                · rw [ho]; exact ((congrArg Prod.fst eJ239).trans ((congrArg Prod.fst eJ7).trans rfl))
                · rw [ho]; rfl
              · refine r_iload hX dX4_offsetOf_75 rfl ?_
                refine r_i2l hX dX4_offsetOf_77 ?_
                refine r_ldc2 hX kc_X4_76 dX4_offsetOf_78 ?_
                refine r_ldc2 hX kc_X4_78 dX4_offsetOf_81 ?_
                refine r_callS hX (c_X4_isIn _ _ _ _ _) ks_X4_38 rfl rfl (Nat.le_of_ble_eq_true rfl) ⟨(Nat.le_of_ble_eq_true rfl), (Nat.le_of_ble_eq_true rfl)⟩ ⟨(Nat.le_of_ble_eq_true rfl), (Nat.le_of_ble_eq_true rfl)⟩ dX4_offsetOf_84 (fun _ _ z => False.elim z) (fun v9 ws9 h240 => ?_)
                obtain ⟨rfl, hw9⟩ := h240
                subst ws9
                dsimp only [mPush]
                refine r_if_eq (tgt := 95) hX dX4_offsetOf_87 (by decide) (fun c242 => ?_) (fun c242 => ?_)
                · refine r_aload_n hX dX4_offsetOf_95 rfl rfl ?_
                  refine r_callV hX (c_X4_no _ _ _ _ _ _) kv_X4_80 14 rfl rfl rfl rfl (Nat.le_of_ble_eq_true rfl) ⟨(Nat.le_of_ble_eq_true rfl), (Nat.le_of_ble_eq_true rfl)⟩ ⟨(Nat.le_of_ble_eq_true rfl), (Nat.le_of_ble_eq_true rfl)⟩ dX4_offsetOf_96 (fun _ _ z => False.elim z) (fun v9 ws9 h243 => ?_)
                  obtain ⟨J245, etJ245, eJ245, rfl, hw9⟩ := h243
                  subst ws9
                  dsimp only [mPush]
                  have ho : f_off p1 p2 p3 = none := by first | exact f_off_n1 (fw18.mp (by first | assumption | exact Classical.not_not.mp (by assumption))) | exact f_off_n2 (fw59.mp (by first | assumption | exact Classical.not_not.mp (by assumption))) | exact f_off_n3 (fw59.mp (by first | assumption | exact Classical.not_not.mp (by assumption))) | exact f_off_n5 (fw64.mp (by first | assumption | exact Classical.not_not.mp (by assumption))) | exact f_off_n4 ⟨by first | exact Or.inl (by first | assumption | exact Int32.not_le.mp (by assumption)) | exact Or.inr (Or.inl (by first | assumption | exact Int32.not_le.mp (by assumption))) | exact Or.inr (Or.inr (by first | assumption | exact Int32.not_le.mp (by assumption))), by first | exact Or.inl (by first | assumption | exact Int32.not_le.mp (by assumption)) | exact Or.inr (Or.inl (by first | assumption | exact Int32.not_le.mp (by assumption))) | exact Or.inr (Or.inr (by first | assumption | exact Int32.not_le.mp (by assumption)))⟩
                  refine r_iret hX hE dX4_offsetOf_99 (Nat.le_of_ble_eq_true rfl) (Nat.le_of_ble_eq_true rfl) ⟨_, J245, Or.inl ⟨i10, hhi10, rfl, ?_, ?_, ?_⟩, (mWF2 eJ245 (mWF2 eJ7 hJ)), rfl, rfl⟩
                  · rw [etJ245]; exact etJ7.trans (by rw [hs9.1]; rfl)
                  · rw [ho]; exact ((congrArg Prod.fst eJ245).trans ((congrArg Prod.fst eJ7).trans rfl))
                  · rw [ho]; rfl
                · refine r_iload hX dX4_offsetOf_90 rfl ?_
                  refine r_if_eq (tgt := 100) hX dX4_offsetOf_92 (by decide) (fun c246 => absurd c246 (by decide)) (fun c246 => ?_)
                  refine r_aload_n hX dX4_offsetOf_95 rfl rfl ?_
                  refine r_callV hX (c_X4_no _ _ _ _ _ _) kv_X4_80 14 rfl rfl rfl rfl (Nat.le_of_ble_eq_true rfl) ⟨(Nat.le_of_ble_eq_true rfl), (Nat.le_of_ble_eq_true rfl)⟩ ⟨(Nat.le_of_ble_eq_true rfl), (Nat.le_of_ble_eq_true rfl)⟩ dX4_offsetOf_96 (fun _ _ z => False.elim z) (fun v9 ws9 h247 => ?_)
                  obtain ⟨J249, etJ249, eJ249, rfl, hw9⟩ := h247
                  subst ws9
                  dsimp only [mPush]
                  have ho : f_off p1 p2 p3 = none := by first | exact f_off_n1 (fw18.mp (by first | assumption | exact Classical.not_not.mp (by assumption))) | exact f_off_n2 (fw59.mp (by first | assumption | exact Classical.not_not.mp (by assumption))) | exact f_off_n3 (fw59.mp (by first | assumption | exact Classical.not_not.mp (by assumption))) | exact f_off_n5 (fw64.mp (by first | assumption | exact Classical.not_not.mp (by assumption))) | exact f_off_n4 ⟨by first | exact Or.inl (by first | assumption | exact Int32.not_le.mp (by assumption)) | exact Or.inr (Or.inl (by first | assumption | exact Int32.not_le.mp (by assumption))) | exact Or.inr (Or.inr (by first | assumption | exact Int32.not_le.mp (by assumption))), by first | exact Or.inl (by first | assumption | exact Int32.not_le.mp (by assumption)) | exact Or.inr (Or.inl (by first | assumption | exact Int32.not_le.mp (by assumption))) | exact Or.inr (Or.inr (by first | assumption | exact Int32.not_le.mp (by assumption)))⟩
                  refine r_iret hX hE dX4_offsetOf_99 (Nat.le_of_ble_eq_true rfl) (Nat.le_of_ble_eq_true rfl) ⟨_, J249, Or.inl ⟨i10, hhi10, rfl, ?_, ?_, ?_⟩, (mWF2 eJ249 (mWF2 eJ7 hJ)), rfl, rfl⟩
                  · rw [etJ249]; exact etJ7.trans (by rw [hs9.1]; rfl)
                  · rw [ho]; exact ((congrArg Prod.fst eJ249).trans ((congrArg Prod.fst eJ7).trans rfl))
                  · rw [ho]; rfl
          · refine r_iload_n hX dX4_offsetOf_31 rfl rfl ?_
            refine r_if_lt (tgt := 40) hX dX4_offsetOf_32 (by decide) (fun c250 => ?_) (fun c250 => ?_)
            · refine r_iconst (v := 1) hX dX4_offsetOf_40 (by decide) ?_
              refine r_goto (tgt := 45) hX dX4_offsetOf_41 (by decide) ?_
              refine r_istore hX dX4_offsetOf_45 (by decide) rfl ?_
              refine r_iload_n hX dX4_offsetOf_47 rfl rfl ?_
              refine r_i2l hX dX4_offsetOf_48 ?_
              refine r_ldc2 hX kc_X4_72 dX4_offsetOf_49 ?_
              refine r_ldc2 hX kc_X4_74 dX4_offsetOf_52 ?_
              refine r_callS hX (c_X4_isIn _ _ _ _ _) ks_X4_38 rfl rfl (Nat.le_of_ble_eq_true rfl) ⟨(Nat.le_of_ble_eq_true rfl), (Nat.le_of_ble_eq_true rfl)⟩ ⟨(Nat.le_of_ble_eq_true rfl), (Nat.le_of_ble_eq_true rfl)⟩ dX4_offsetOf_55 (fun _ _ z => False.elim z) (fun v9 ws9 h251 => ?_)
              obtain ⟨rfl, hw9⟩ := h251
              subst ws9
              dsimp only [mPush]
              refine r_if_eq (tgt := 95) hX dX4_offsetOf_58 (by decide) (fun c253 => ?_) (fun c253 => ?_)
              · refine r_aload_n hX dX4_offsetOf_95 rfl rfl ?_
                refine r_callV hX (c_X4_no _ _ _ _ _ _) kv_X4_80 14 rfl rfl rfl rfl (Nat.le_of_ble_eq_true rfl) ⟨(Nat.le_of_ble_eq_true rfl), (Nat.le_of_ble_eq_true rfl)⟩ ⟨(Nat.le_of_ble_eq_true rfl), (Nat.le_of_ble_eq_true rfl)⟩ dX4_offsetOf_96 (fun _ _ z => False.elim z) (fun v9 ws9 h254 => ?_)
                obtain ⟨J256, etJ256, eJ256, rfl, hw9⟩ := h254
                subst ws9
                dsimp only [mPush]
                have ho : f_off p1 p2 p3 = none := by first | exact f_off_n1 (fw18.mp (by first | assumption | exact Classical.not_not.mp (by assumption))) | exact f_off_n2 (fw59.mp (by first | assumption | exact Classical.not_not.mp (by assumption))) | exact f_off_n3 (fw59.mp (by first | assumption | exact Classical.not_not.mp (by assumption))) | exact f_off_n5 (fw64.mp (by first | assumption | exact Classical.not_not.mp (by assumption))) | exact f_off_n4 ⟨by first | exact Or.inl (by first | assumption | exact Int32.not_le.mp (by assumption)) | exact Or.inr (Or.inl (by first | assumption | exact Int32.not_le.mp (by assumption))) | exact Or.inr (Or.inr (by first | assumption | exact Int32.not_le.mp (by assumption))), by first | exact Or.inl (by first | assumption | exact Int32.not_le.mp (by assumption)) | exact Or.inr (Or.inl (by first | assumption | exact Int32.not_le.mp (by assumption))) | exact Or.inr (Or.inr (by first | assumption | exact Int32.not_le.mp (by assumption)))⟩
                refine r_iret hX hE dX4_offsetOf_99 (Nat.le_of_ble_eq_true rfl) (Nat.le_of_ble_eq_true rfl) ⟨_, J256, Or.inl ⟨i10, hhi10, rfl, ?_, ?_, ?_⟩, (mWF2 eJ256 (mWF2 eJ7 hJ)), rfl, rfl⟩
                · rw [etJ256]; exact etJ7.trans (by rw [hs9.1]; rfl)
                · rw [ho]; exact ((congrArg Prod.fst eJ256).trans ((congrArg Prod.fst eJ7).trans rfl))
                · rw [ho]; rfl
              · refine r_iload_n hX dX4_offsetOf_61 rfl rfl ?_
                refine r_i2l hX dX4_offsetOf_62 ?_
                refine r_ldc2 hX kc_X4_76 dX4_offsetOf_63 ?_
                refine r_ldc2 hX kc_X4_78 dX4_offsetOf_66 ?_
                refine r_callS hX (c_X4_isIn _ _ _ _ _) ks_X4_38 rfl rfl (Nat.le_of_ble_eq_true rfl) ⟨(Nat.le_of_ble_eq_true rfl), (Nat.le_of_ble_eq_true rfl)⟩ ⟨(Nat.le_of_ble_eq_true rfl), (Nat.le_of_ble_eq_true rfl)⟩ dX4_offsetOf_69 (fun _ _ z => False.elim z) (fun v9 ws9 h257 => ?_)
                obtain ⟨rfl, hw9⟩ := h257
                subst ws9
                dsimp only [mPush]
                refine r_if_eq (tgt := 95) hX dX4_offsetOf_72 (by decide) (fun c259 => ?_) (fun c259 => ?_)
                · refine r_aload_n hX dX4_offsetOf_95 rfl rfl ?_
                  refine r_callV hX (c_X4_no _ _ _ _ _ _) kv_X4_80 14 rfl rfl rfl rfl (Nat.le_of_ble_eq_true rfl) ⟨(Nat.le_of_ble_eq_true rfl), (Nat.le_of_ble_eq_true rfl)⟩ ⟨(Nat.le_of_ble_eq_true rfl), (Nat.le_of_ble_eq_true rfl)⟩ dX4_offsetOf_96 (fun _ _ z => False.elim z) (fun v9 ws9 h260 => ?_)
                  obtain ⟨J262, etJ262, eJ262, rfl, hw9⟩ := h260
                  subst ws9
                  dsimp only [mPush]
                  have ho : f_off p1 p2 p3 = none := by first | exact f_off_n1 (fw18.mp (by first | assumption | exact Classical.not_not.mp (by assumption))) | exact f_off_n2 (fw59.mp (by first | assumption | exact Classical.not_not.mp (by assumption))) | exact f_off_n3 (fw59.mp (by first | assumption | exact Classical.not_not.mp (by assumption))) | exact f_off_n5 (fw64.mp (by first | assumption | exact Classical.not_not.mp (by assumption))) | exact f_off_n4 ⟨by first | exact Or.inl (by first | assumption | exact Int32.not_le.mp (by assumption)) | exact Or.inr (Or.inl (by first | assumption | exact Int32.not_le.mp (by assumption))) | exact Or.inr (Or.inr (by first | assumption | exact Int32.not_le.mp (by assumption))), by first | exact Or.inl (by first | assumption | exact Int32.not_le.mp (by assumption)) | exact Or.inr (Or.inl (by first | assumption | exact Int32.not_le.mp (by assumption))) | exact Or.inr (Or.inr (by first | assumption | exact Int32.not_le.mp (by assumption)))⟩
                  refine r_iret hX hE dX4_offsetOf_99 (Nat.le_of_ble_eq_true rfl) (Nat.le_of_ble_eq_true rfl) ⟨_, J262, Or.inl ⟨i10, hhi10, rfl, ?_, ?_, ?_⟩, (mWF2 eJ262 (mWF2 eJ7 hJ)), rfl, rfl⟩
                  · rw [etJ262]; exact etJ7.trans (by rw [hs9.1]; rfl)
                  · rw [ho]; exact ((congrArg Prod.fst eJ262).trans ((congrArg Prod.fst eJ7).trans rfl))
                  · rw [ho]; rfl
                · refine r_iload hX dX4_offsetOf_75 rfl ?_
                  refine r_i2l hX dX4_offsetOf_77 ?_
                  refine r_ldc2 hX kc_X4_76 dX4_offsetOf_78 ?_
                  refine r_ldc2 hX kc_X4_78 dX4_offsetOf_81 ?_
                  refine r_callS hX (c_X4_isIn _ _ _ _ _) ks_X4_38 rfl rfl (Nat.le_of_ble_eq_true rfl) ⟨(Nat.le_of_ble_eq_true rfl), (Nat.le_of_ble_eq_true rfl)⟩ ⟨(Nat.le_of_ble_eq_true rfl), (Nat.le_of_ble_eq_true rfl)⟩ dX4_offsetOf_84 (fun _ _ z => False.elim z) (fun v9 ws9 h263 => ?_)
                  obtain ⟨rfl, hw9⟩ := h263
                  subst ws9
                  dsimp only [mPush]
                  refine r_if_eq (tgt := 95) hX dX4_offsetOf_87 (by decide) (fun c265 => ?_) (fun c265 => ?_)
                  · refine r_aload_n hX dX4_offsetOf_95 rfl rfl ?_
                    refine r_callV hX (c_X4_no _ _ _ _ _ _) kv_X4_80 14 rfl rfl rfl rfl (Nat.le_of_ble_eq_true rfl) ⟨(Nat.le_of_ble_eq_true rfl), (Nat.le_of_ble_eq_true rfl)⟩ ⟨(Nat.le_of_ble_eq_true rfl), (Nat.le_of_ble_eq_true rfl)⟩ dX4_offsetOf_96 (fun _ _ z => False.elim z) (fun v9 ws9 h266 => ?_)
                    obtain ⟨J268, etJ268, eJ268, rfl, hw9⟩ := h266
                    subst ws9
                    dsimp only [mPush]
                    have ho : f_off p1 p2 p3 = none := by first | exact f_off_n1 (fw18.mp (by first | assumption | exact Classical.not_not.mp (by assumption))) | exact f_off_n2 (fw59.mp (by first | assumption | exact Classical.not_not.mp (by assumption))) | exact f_off_n3 (fw59.mp (by first | assumption | exact Classical.not_not.mp (by assumption))) | exact f_off_n5 (fw64.mp (by first | assumption | exact Classical.not_not.mp (by assumption))) | exact f_off_n4 ⟨by first | exact Or.inl (by first | assumption | exact Int32.not_le.mp (by assumption)) | exact Or.inr (Or.inl (by first | assumption | exact Int32.not_le.mp (by assumption))) | exact Or.inr (Or.inr (by first | assumption | exact Int32.not_le.mp (by assumption))), by first | exact Or.inl (by first | assumption | exact Int32.not_le.mp (by assumption)) | exact Or.inr (Or.inl (by first | assumption | exact Int32.not_le.mp (by assumption))) | exact Or.inr (Or.inr (by first | assumption | exact Int32.not_le.mp (by assumption)))⟩
                    refine r_iret hX hE dX4_offsetOf_99 (Nat.le_of_ble_eq_true rfl) (Nat.le_of_ble_eq_true rfl) ⟨_, J268, Or.inl ⟨i10, hhi10, rfl, ?_, ?_, ?_⟩, (mWF2 eJ268 (mWF2 eJ7 hJ)), rfl, rfl⟩
                    · rw [etJ268]; exact etJ7.trans (by rw [hs9.1]; rfl)
                    · rw [ho]; exact ((congrArg Prod.fst eJ268).trans ((congrArg Prod.fst eJ7).trans rfl))
                    · rw [ho]; rfl
                  · refine r_iload hX dX4_offsetOf_90 rfl ?_
                    refine r_if_eq (tgt := 100) hX dX4_offsetOf_92 (by decide) (fun c269 => absurd c269 (by decide)) (fun c269 => ?_)
                    refine r_aload_n hX dX4_offsetOf_95 rfl rfl ?_
                    refine r_callV hX (c_X4_no _ _ _ _ _ _) kv_X4_80 14 rfl rfl rfl rfl (Nat.le_of_ble_eq_true rfl) ⟨(Nat.le_of_ble_eq_true rfl), (Nat.le_of_ble_eq_true rfl)⟩ ⟨(Nat.le_of_ble_eq_true rfl), (Nat.le_of_ble_eq_true rfl)⟩ dX4_offsetOf_96 (fun _ _ z => False.elim z) (fun v9 ws9 h270 => ?_)
                    obtain ⟨J272, etJ272, eJ272, rfl, hw9⟩ := h270
                    subst ws9
                    dsimp only [mPush]
                    have ho : f_off p1 p2 p3 = none := by first | exact f_off_n1 (fw18.mp (by first | assumption | exact Classical.not_not.mp (by assumption))) | exact f_off_n2 (fw59.mp (by first | assumption | exact Classical.not_not.mp (by assumption))) | exact f_off_n3 (fw59.mp (by first | assumption | exact Classical.not_not.mp (by assumption))) | exact f_off_n5 (fw64.mp (by first | assumption | exact Classical.not_not.mp (by assumption))) | exact f_off_n4 ⟨by first | exact Or.inl (by first | assumption | exact Int32.not_le.mp (by assumption)) | exact Or.inr (Or.inl (by first | assumption | exact Int32.not_le.mp (by assumption))) | exact Or.inr (Or.inr (by first | assumption | exact Int32.not_le.mp (by assumption))), by first | exact Or.inl (by first | assumption | exact Int32.not_le.mp (by assumption)) | exact Or.inr (Or.inl (by first | assumption | exact Int32.not_le.mp (by assumption))) | exact Or.inr (Or.inr (by first | assumption | exact Int32.not_le.mp (by assumption)))⟩
                    refine r_iret hX hE dX4_offsetOf_99 (Nat.le_of_ble_eq_true rfl) (Nat.le_of_ble_eq_true rfl) ⟨_, J272, Or.inl ⟨i10, hhi10, rfl, ?_, ?_, ?_⟩, (mWF2 eJ272 (mWF2 eJ7 hJ)), rfl, rfl⟩
                    · rw [etJ272]; exact etJ7.trans (by rw [hs9.1]; rfl)
                    · rw [ho]; exact ((congrArg Prod.fst eJ272).trans ((congrArg Prod.fst eJ7).trans rfl))
                    · rw [ho]; rfl
            · refine r_iload hX dX4_offsetOf_35 rfl ?_
              refine r_if_ge (tgt := 44) hX dX4_offsetOf_37 (by decide) (fun c273 => ?_) (fun c273 => ?_)
              · refine r_iconst (v := 0) hX dX4_offsetOf_44 (by decide) ?_
                refine r_istore hX dX4_offsetOf_45 (by decide) rfl ?_
                refine r_iload_n hX dX4_offsetOf_47 rfl rfl ?_
                refine r_i2l hX dX4_offsetOf_48 ?_
                refine r_ldc2 hX kc_X4_72 dX4_offsetOf_49 ?_
                refine r_ldc2 hX kc_X4_74 dX4_offsetOf_52 ?_
                refine r_callS hX (c_X4_isIn _ _ _ _ _) ks_X4_38 rfl rfl (Nat.le_of_ble_eq_true rfl) ⟨(Nat.le_of_ble_eq_true rfl), (Nat.le_of_ble_eq_true rfl)⟩ ⟨(Nat.le_of_ble_eq_true rfl), (Nat.le_of_ble_eq_true rfl)⟩ dX4_offsetOf_55 (fun _ _ z => False.elim z) (fun v9 ws9 h274 => ?_)
                obtain ⟨rfl, hw9⟩ := h274
                subst ws9
                dsimp only [mPush]
                refine r_if_eq (tgt := 95) hX dX4_offsetOf_58 (by decide) (fun c276 => ?_) (fun c276 => ?_)
                · refine r_aload_n hX dX4_offsetOf_95 rfl rfl ?_
                  refine r_callV hX (c_X4_no _ _ _ _ _ _) kv_X4_80 14 rfl rfl rfl rfl (Nat.le_of_ble_eq_true rfl) ⟨(Nat.le_of_ble_eq_true rfl), (Nat.le_of_ble_eq_true rfl)⟩ ⟨(Nat.le_of_ble_eq_true rfl), (Nat.le_of_ble_eq_true rfl)⟩ dX4_offsetOf_96 (fun _ _ z => False.elim z) (fun v9 ws9 h277 => ?_)
                  obtain ⟨J279, etJ279, eJ279, rfl, hw9⟩ := h277
                  subst ws9
                  dsimp only [mPush]
                  have ho : f_off p1 p2 p3 = none := by first | exact f_off_n1 (fw18.mp (by first | assumption | exact Classical.not_not.mp (by assumption))) | exact f_off_n2 (fw59.mp (by first | assumption | exact Classical.not_not.mp (by assumption))) | exact f_off_n3 (fw59.mp (by first | assumption | exact Classical.not_not.mp (by assumption))) | exact f_off_n5 (fw64.mp (by first | assumption | exact Classical.not_not.mp (by assumption))) | exact f_off_n4 ⟨by first | exact Or.inl (by first | assumption | exact Int32.not_le.mp (by assumption)) | exact Or.inr (Or.inl (by first | assumption | exact Int32.not_le.mp (by assumption))) | exact Or.inr (Or.inr (by first | assumption | exact Int32.not_le.mp (by assumption))), by first | exact Or.inl (by first | assumption | exact Int32.not_le.mp (by assumption)) | exact Or.inr (Or.inl (by first | assumption | exact Int32.not_le.mp (by assumption))) | exact Or.inr (Or.inr (by first | assumption | exact Int32.not_le.mp (by assumption)))⟩
                  refine r_iret hX hE dX4_offsetOf_99 (Nat.le_of_ble_eq_true rfl) (Nat.le_of_ble_eq_true rfl) ⟨_, J279, Or.inl ⟨i10, hhi10, rfl, ?_, ?_, ?_⟩, (mWF2 eJ279 (mWF2 eJ7 hJ)), rfl, rfl⟩
                  · rw [etJ279]; exact etJ7.trans (by rw [hs9.1]; rfl)
                  · rw [ho]; exact ((congrArg Prod.fst eJ279).trans ((congrArg Prod.fst eJ7).trans rfl))
                  · rw [ho]; rfl
                · refine r_iload_n hX dX4_offsetOf_61 rfl rfl ?_
                  refine r_i2l hX dX4_offsetOf_62 ?_
                  refine r_ldc2 hX kc_X4_76 dX4_offsetOf_63 ?_
                  refine r_ldc2 hX kc_X4_78 dX4_offsetOf_66 ?_
                  refine r_callS hX (c_X4_isIn _ _ _ _ _) ks_X4_38 rfl rfl (Nat.le_of_ble_eq_true rfl) ⟨(Nat.le_of_ble_eq_true rfl), (Nat.le_of_ble_eq_true rfl)⟩ ⟨(Nat.le_of_ble_eq_true rfl), (Nat.le_of_ble_eq_true rfl)⟩ dX4_offsetOf_69 (fun _ _ z => False.elim z) (fun v9 ws9 h280 => ?_)
                  obtain ⟨rfl, hw9⟩ := h280
                  subst ws9
                  dsimp only [mPush]
                  refine r_if_eq (tgt := 95) hX dX4_offsetOf_72 (by decide) (fun c282 => ?_) (fun c282 => ?_)
                  · refine r_aload_n hX dX4_offsetOf_95 rfl rfl ?_
                    refine r_callV hX (c_X4_no _ _ _ _ _ _) kv_X4_80 14 rfl rfl rfl rfl (Nat.le_of_ble_eq_true rfl) ⟨(Nat.le_of_ble_eq_true rfl), (Nat.le_of_ble_eq_true rfl)⟩ ⟨(Nat.le_of_ble_eq_true rfl), (Nat.le_of_ble_eq_true rfl)⟩ dX4_offsetOf_96 (fun _ _ z => False.elim z) (fun v9 ws9 h283 => ?_)
                    obtain ⟨J285, etJ285, eJ285, rfl, hw9⟩ := h283
                    subst ws9
                    dsimp only [mPush]
                    have ho : f_off p1 p2 p3 = none := by first | exact f_off_n1 (fw18.mp (by first | assumption | exact Classical.not_not.mp (by assumption))) | exact f_off_n2 (fw59.mp (by first | assumption | exact Classical.not_not.mp (by assumption))) | exact f_off_n3 (fw59.mp (by first | assumption | exact Classical.not_not.mp (by assumption))) | exact f_off_n5 (fw64.mp (by first | assumption | exact Classical.not_not.mp (by assumption))) | exact f_off_n4 ⟨by first | exact Or.inl (by first | assumption | exact Int32.not_le.mp (by assumption)) | exact Or.inr (Or.inl (by first | assumption | exact Int32.not_le.mp (by assumption))) | exact Or.inr (Or.inr (by first | assumption | exact Int32.not_le.mp (by assumption))), by first | exact Or.inl (by first | assumption | exact Int32.not_le.mp (by assumption)) | exact Or.inr (Or.inl (by first | assumption | exact Int32.not_le.mp (by assumption))) | exact Or.inr (Or.inr (by first | assumption | exact Int32.not_le.mp (by assumption)))⟩
                    refine r_iret hX hE dX4_offsetOf_99 (Nat.le_of_ble_eq_true rfl) (Nat.le_of_ble_eq_true rfl) ⟨_, J285, Or.inl ⟨i10, hhi10, rfl, ?_, ?_, ?_⟩, (mWF2 eJ285 (mWF2 eJ7 hJ)), rfl, rfl⟩
                    · rw [etJ285]; exact etJ7.trans (by rw [hs9.1]; rfl)
                    · rw [ho]; exact ((congrArg Prod.fst eJ285).trans ((congrArg Prod.fst eJ7).trans rfl))
                    · rw [ho]; rfl
                  · refine r_iload hX dX4_offsetOf_75 rfl ?_
                    refine r_i2l hX dX4_offsetOf_77 ?_
                    refine r_ldc2 hX kc_X4_76 dX4_offsetOf_78 ?_
                    refine r_ldc2 hX kc_X4_78 dX4_offsetOf_81 ?_
                    refine r_callS hX (c_X4_isIn _ _ _ _ _) ks_X4_38 rfl rfl (Nat.le_of_ble_eq_true rfl) ⟨(Nat.le_of_ble_eq_true rfl), (Nat.le_of_ble_eq_true rfl)⟩ ⟨(Nat.le_of_ble_eq_true rfl), (Nat.le_of_ble_eq_true rfl)⟩ dX4_offsetOf_84 (fun _ _ z => False.elim z) (fun v9 ws9 h286 => ?_)
                    obtain ⟨rfl, hw9⟩ := h286
                    subst ws9
                    dsimp only [mPush]
                    refine r_if_eq (tgt := 95) hX dX4_offsetOf_87 (by decide) (fun c288 => ?_) (fun c288 => ?_)
                    · refine r_aload_n hX dX4_offsetOf_95 rfl rfl ?_
                      refine r_callV hX (c_X4_no _ _ _ _ _ _) kv_X4_80 14 rfl rfl rfl rfl (Nat.le_of_ble_eq_true rfl) ⟨(Nat.le_of_ble_eq_true rfl), (Nat.le_of_ble_eq_true rfl)⟩ ⟨(Nat.le_of_ble_eq_true rfl), (Nat.le_of_ble_eq_true rfl)⟩ dX4_offsetOf_96 (fun _ _ z => False.elim z) (fun v9 ws9 h289 => ?_)
                      obtain ⟨J291, etJ291, eJ291, rfl, hw9⟩ := h289
                      subst ws9
                      dsimp only [mPush]
                      have ho : f_off p1 p2 p3 = none := by first | exact f_off_n1 (fw18.mp (by first | assumption | exact Classical.not_not.mp (by assumption))) | exact f_off_n2 (fw59.mp (by first | assumption | exact Classical.not_not.mp (by assumption))) | exact f_off_n3 (fw59.mp (by first | assumption | exact Classical.not_not.mp (by assumption))) | exact f_off_n5 (fw64.mp (by first | assumption | exact Classical.not_not.mp (by assumption))) | exact f_off_n4 ⟨by first | exact Or.inl (by first | assumption | exact Int32.not_le.mp (by assumption)) | exact Or.inr (Or.inl (by first | assumption | exact Int32.not_le.mp (by assumption))) | exact Or.inr (Or.inr (by first | assumption | exact Int32.not_le.mp (by assumption))), by first | exact Or.inl (by first | assumption | exact Int32.not_le.mp (by assumption)) | exact Or.inr (Or.inl (by first | assumption | exact Int32.not_le.mp (by assumption))) | exact Or.inr (Or.inr (by first | assumption | exact Int32.not_le.mp (by assumption)))⟩
                      refine r_iret hX hE dX4_offsetOf_99 (Nat.le_of_ble_eq_true rfl) (Nat.le_of_ble_eq_true rfl) ⟨_, J291, Or.inl ⟨i10, hhi10, rfl, ?_, ?_, ?_⟩, (mWF2 eJ291 (mWF2 eJ7 hJ)), rfl, rfl⟩
                      · rw [etJ291]; exact etJ7.trans (by rw [hs9.1]; rfl)
                      · rw [ho]; exact ((congrArg Prod.fst eJ291).trans ((congrArg Prod.fst eJ7).trans rfl))
                      · rw [ho]; rfl
                    · refine r_iload hX dX4_offsetOf_90 rfl ?_
                      refine r_if_eq (tgt := 100) hX dX4_offsetOf_92 (by decide) (fun c292 => ?_) (fun c292 => absurd (by decide) c292)
                      refine r_sipush (v := 3600) hX dX4_offsetOf_100 (by decide) ?_
                      refine r_iload_n hX dX4_offsetOf_103 rfl rfl ?_
                      refine r_imul hX dX4_offsetOf_104 ?_
                      refine r_bipush (v := 60) hX dX4_offsetOf_105 (by decide) ?_
                      refine r_iload_n hX dX4_offsetOf_107 rfl rfl ?_
                      refine r_imul hX dX4_offsetOf_108 ?_
                      refine r_iadd hX dX4_offsetOf_109 ?_
                      refine r_iload hX dX4_offsetOf_110 rfl ?_
                      refine r_iadd hX dX4_offsetOf_112 ?_
                      rw [Int32.mul_comm 3600 p1, Int32.mul_comm 60 p2]
                      refine r_istore hX dX4_offsetOf_113 (by decide) rfl ?_
                      refine r_iload hX dX4_offsetOf_115 rfl ?_
                      refine r_i2l hX dX4_offsetOf_117 ?_
                      refine r_ldc2 hX kc_X4_64 dX4_offsetOf_118 ?_
                      refine r_ldc2 hX kc_X4_66 dX4_offsetOf_121 ?_
                      refine r_callS hX (c_X4_isIn _ _ _ _ _) ks_X4_38 rfl rfl (Nat.le_of_ble_eq_true rfl) ⟨(Nat.le_of_ble_eq_true rfl), (Nat.le_of_ble_eq_true rfl)⟩ ⟨(Nat.le_of_ble_eq_true rfl), (Nat.le_of_ble_eq_true rfl)⟩ dX4_offsetOf_124 (fun _ _ z => False.elim z) (fun v9 ws9 h293 => ?_)
                      obtain ⟨rfl, hw9⟩ := h293
                      subst ws9
                      dsimp only [mPush]
                      refine r_if_ne (tgt := 135) hX dX4_offsetOf_127 (by decide) (fun c295 => ?_) (fun c295 => ?_)
                      · refine r_aload_n hX dX4_offsetOf_135 rfl rfl ?_
                        refine r_get hX kf_X4_7 14 rfl rfl dX4_offsetOf_136 ?_
                        refine r_iload_n hX dX4_offsetOf_139 rfl rfl ?_
                        refine r_iload hX dX4_offsetOf_140 rfl ?_
                        refine r_iast hX 15 0 rfl rfl (vp_in_nI hhi10 (by decide)) dX4_offsetOf_142 ?_
                        refine r_eqw (ws' := mRw ad ae cs K (J7.1, upd J7.2.1 ((nI i10)).toNatClampNeg _, J7.2.2.1, J7.2.2.2.1, J7.2.2.2.2.1, J7.2.2.2.2.2.1, J7.2.2.2.2.2.2) rest) rfl ?_
                        refine r_iload hX dX4_offsetOf_143 rfl ?_
                        have ho : f_off p1 p2 p3 = some (p1 * 3600 + p2 * 60 + p3) := f_off_y (fun q => absurd (fw18.mpr q) (by assumption)) (fun q => absurd (fw59.mpr q) (by assumption)) (fun q => absurd (fw59.mpr q) (by assumption)) (by first | exact (fun q => q.1.elim (by first | assumption | exact Int32.not_lt.mpr (by assumption)) (fun q => q.elim (by first | assumption | exact Int32.not_lt.mpr (by assumption)) (by first | assumption | exact Int32.not_lt.mpr (by assumption)))) | exact (fun q => q.2.elim (by first | assumption | exact Int32.not_lt.mpr (by assumption)) (fun q => q.elim (by first | assumption | exact Int32.not_lt.mpr (by assumption)) (by first | assumption | exact Int32.not_lt.mpr (by assumption))))) (fun q => absurd (fw64.mpr q) (by assumption))
                        refine r_iret hX hE dX4_offsetOf_145 (Nat.le_of_ble_eq_true rfl) (Nat.le_of_ble_eq_true rfl) ⟨_, (J7.1, upd J7.2.1 ((nI i10)).toNatClampNeg _, J7.2.2.1, J7.2.2.2.1, J7.2.2.2.2.1, J7.2.2.2.2.2.1, J7.2.2.2.2.2.2), Or.inl ⟨i10, hhi10, rfl, ?_, ?_, ?_⟩, (show mWF J7 from (mWF2 eJ7 hJ)), rfl, rfl⟩
                        · exact etJ7.trans (by rw [hs9.1]; rfl)
                        · rw [ho]
                          show upd J7.2.1 (nI i10).toNatClampNeg _ = _
                          rw [nI_clamp (show i10 < 2 ^ 31 by omega), congrArg Prod.fst eJ7]; rfl
                        · rw [ho]; rfl
                      · refine r_aload_n hX dX4_offsetOf_130 rfl rfl ?_
                        refine r_callV hX (c_X4_no _ _ _ _ _ _) kv_X4_80 14 rfl rfl rfl rfl (Nat.le_of_ble_eq_true rfl) ⟨(Nat.le_of_ble_eq_true rfl), (Nat.le_of_ble_eq_true rfl)⟩ ⟨(Nat.le_of_ble_eq_true rfl), (Nat.le_of_ble_eq_true rfl)⟩ dX4_offsetOf_131 (fun _ _ z => False.elim z) (fun v9 ws9 h296 => ?_)
                        obtain ⟨J298, etJ298, eJ298, rfl, hw9⟩ := h296
                        subst ws9
                        dsimp only [mPush]
                        have ho : f_off p1 p2 p3 = none := by first | exact f_off_n1 (fw18.mp (by first | assumption | exact Classical.not_not.mp (by assumption))) | exact f_off_n2 (fw59.mp (by first | assumption | exact Classical.not_not.mp (by assumption))) | exact f_off_n3 (fw59.mp (by first | assumption | exact Classical.not_not.mp (by assumption))) | exact f_off_n5 (fw64.mp (by first | assumption | exact Classical.not_not.mp (by assumption))) | exact f_off_n4 ⟨by first | exact Or.inl (by first | assumption | exact Int32.not_le.mp (by assumption)) | exact Or.inr (Or.inl (by first | assumption | exact Int32.not_le.mp (by assumption))) | exact Or.inr (Or.inr (by first | assumption | exact Int32.not_le.mp (by assumption))), by first | exact Or.inl (by first | assumption | exact Int32.not_le.mp (by assumption)) | exact Or.inr (Or.inl (by first | assumption | exact Int32.not_le.mp (by assumption))) | exact Or.inr (Or.inr (by first | assumption | exact Int32.not_le.mp (by assumption)))⟩
                        refine r_iret hX hE dX4_offsetOf_134 (Nat.le_of_ble_eq_true rfl) (Nat.le_of_ble_eq_true rfl) ⟨_, J298, Or.inl ⟨i10, hhi10, rfl, ?_, ?_, ?_⟩, (mWF2 eJ298 (mWF2 eJ7 hJ)), rfl, rfl⟩
                        · rw [etJ298]; exact etJ7.trans (by rw [hs9.1]; rfl)
                        · rw [ho]; exact ((congrArg Prod.fst eJ298).trans ((congrArg Prod.fst eJ7).trans rfl))
                        · rw [ho]; rfl
              · refine r_iconst (v := 1) hX dX4_offsetOf_40 (by decide) ?_
                refine r_goto (tgt := 45) hX dX4_offsetOf_41 (by decide) ?_
                refine r_istore hX dX4_offsetOf_45 (by decide) rfl ?_
                refine r_iload_n hX dX4_offsetOf_47 rfl rfl ?_
                refine r_i2l hX dX4_offsetOf_48 ?_
                refine r_ldc2 hX kc_X4_72 dX4_offsetOf_49 ?_
                refine r_ldc2 hX kc_X4_74 dX4_offsetOf_52 ?_
                refine r_callS hX (c_X4_isIn _ _ _ _ _) ks_X4_38 rfl rfl (Nat.le_of_ble_eq_true rfl) ⟨(Nat.le_of_ble_eq_true rfl), (Nat.le_of_ble_eq_true rfl)⟩ ⟨(Nat.le_of_ble_eq_true rfl), (Nat.le_of_ble_eq_true rfl)⟩ dX4_offsetOf_55 (fun _ _ z => False.elim z) (fun v9 ws9 h299 => ?_)
                obtain ⟨rfl, hw9⟩ := h299
                subst ws9
                dsimp only [mPush]
                refine r_if_eq (tgt := 95) hX dX4_offsetOf_58 (by decide) (fun c301 => ?_) (fun c301 => ?_)
                · refine r_aload_n hX dX4_offsetOf_95 rfl rfl ?_
                  refine r_callV hX (c_X4_no _ _ _ _ _ _) kv_X4_80 14 rfl rfl rfl rfl (Nat.le_of_ble_eq_true rfl) ⟨(Nat.le_of_ble_eq_true rfl), (Nat.le_of_ble_eq_true rfl)⟩ ⟨(Nat.le_of_ble_eq_true rfl), (Nat.le_of_ble_eq_true rfl)⟩ dX4_offsetOf_96 (fun _ _ z => False.elim z) (fun v9 ws9 h302 => ?_)
                  obtain ⟨J304, etJ304, eJ304, rfl, hw9⟩ := h302
                  subst ws9
                  dsimp only [mPush]
                  have ho : f_off p1 p2 p3 = none := by first | exact f_off_n1 (fw18.mp (by first | assumption | exact Classical.not_not.mp (by assumption))) | exact f_off_n2 (fw59.mp (by first | assumption | exact Classical.not_not.mp (by assumption))) | exact f_off_n3 (fw59.mp (by first | assumption | exact Classical.not_not.mp (by assumption))) | exact f_off_n5 (fw64.mp (by first | assumption | exact Classical.not_not.mp (by assumption))) | exact f_off_n4 ⟨by first | exact Or.inl (by first | assumption | exact Int32.not_le.mp (by assumption)) | exact Or.inr (Or.inl (by first | assumption | exact Int32.not_le.mp (by assumption))) | exact Or.inr (Or.inr (by first | assumption | exact Int32.not_le.mp (by assumption))), by first | exact Or.inl (by first | assumption | exact Int32.not_le.mp (by assumption)) | exact Or.inr (Or.inl (by first | assumption | exact Int32.not_le.mp (by assumption))) | exact Or.inr (Or.inr (by first | assumption | exact Int32.not_le.mp (by assumption)))⟩
                  refine r_iret hX hE dX4_offsetOf_99 (Nat.le_of_ble_eq_true rfl) (Nat.le_of_ble_eq_true rfl) ⟨_, J304, Or.inl ⟨i10, hhi10, rfl, ?_, ?_, ?_⟩, (mWF2 eJ304 (mWF2 eJ7 hJ)), rfl, rfl⟩
                  · rw [etJ304]; exact etJ7.trans (by rw [hs9.1]; rfl)
                  · rw [ho]; exact ((congrArg Prod.fst eJ304).trans ((congrArg Prod.fst eJ7).trans rfl))
                  · rw [ho]; rfl
                · refine r_iload_n hX dX4_offsetOf_61 rfl rfl ?_
                  refine r_i2l hX dX4_offsetOf_62 ?_
                  refine r_ldc2 hX kc_X4_76 dX4_offsetOf_63 ?_
                  refine r_ldc2 hX kc_X4_78 dX4_offsetOf_66 ?_
                  refine r_callS hX (c_X4_isIn _ _ _ _ _) ks_X4_38 rfl rfl (Nat.le_of_ble_eq_true rfl) ⟨(Nat.le_of_ble_eq_true rfl), (Nat.le_of_ble_eq_true rfl)⟩ ⟨(Nat.le_of_ble_eq_true rfl), (Nat.le_of_ble_eq_true rfl)⟩ dX4_offsetOf_69 (fun _ _ z => False.elim z) (fun v9 ws9 h305 => ?_)
                  obtain ⟨rfl, hw9⟩ := h305
                  subst ws9
                  dsimp only [mPush]
                  refine r_if_eq (tgt := 95) hX dX4_offsetOf_72 (by decide) (fun c307 => ?_) (fun c307 => ?_)
                  · refine r_aload_n hX dX4_offsetOf_95 rfl rfl ?_
                    refine r_callV hX (c_X4_no _ _ _ _ _ _) kv_X4_80 14 rfl rfl rfl rfl (Nat.le_of_ble_eq_true rfl) ⟨(Nat.le_of_ble_eq_true rfl), (Nat.le_of_ble_eq_true rfl)⟩ ⟨(Nat.le_of_ble_eq_true rfl), (Nat.le_of_ble_eq_true rfl)⟩ dX4_offsetOf_96 (fun _ _ z => False.elim z) (fun v9 ws9 h308 => ?_)
                    obtain ⟨J310, etJ310, eJ310, rfl, hw9⟩ := h308
                    subst ws9
                    dsimp only [mPush]
                    have ho : f_off p1 p2 p3 = none := by first | exact f_off_n1 (fw18.mp (by first | assumption | exact Classical.not_not.mp (by assumption))) | exact f_off_n2 (fw59.mp (by first | assumption | exact Classical.not_not.mp (by assumption))) | exact f_off_n3 (fw59.mp (by first | assumption | exact Classical.not_not.mp (by assumption))) | exact f_off_n5 (fw64.mp (by first | assumption | exact Classical.not_not.mp (by assumption))) | exact f_off_n4 ⟨by first | exact Or.inl (by first | assumption | exact Int32.not_le.mp (by assumption)) | exact Or.inr (Or.inl (by first | assumption | exact Int32.not_le.mp (by assumption))) | exact Or.inr (Or.inr (by first | assumption | exact Int32.not_le.mp (by assumption))), by first | exact Or.inl (by first | assumption | exact Int32.not_le.mp (by assumption)) | exact Or.inr (Or.inl (by first | assumption | exact Int32.not_le.mp (by assumption))) | exact Or.inr (Or.inr (by first | assumption | exact Int32.not_le.mp (by assumption)))⟩
                    refine r_iret hX hE dX4_offsetOf_99 (Nat.le_of_ble_eq_true rfl) (Nat.le_of_ble_eq_true rfl) ⟨_, J310, Or.inl ⟨i10, hhi10, rfl, ?_, ?_, ?_⟩, (mWF2 eJ310 (mWF2 eJ7 hJ)), rfl, rfl⟩
                    · rw [etJ310]; exact etJ7.trans (by rw [hs9.1]; rfl)
                    · rw [ho]; exact ((congrArg Prod.fst eJ310).trans ((congrArg Prod.fst eJ7).trans rfl))
                    · rw [ho]; rfl
                  · refine r_iload hX dX4_offsetOf_75 rfl ?_
                    refine r_i2l hX dX4_offsetOf_77 ?_
                    refine r_ldc2 hX kc_X4_76 dX4_offsetOf_78 ?_
                    refine r_ldc2 hX kc_X4_78 dX4_offsetOf_81 ?_
                    refine r_callS hX (c_X4_isIn _ _ _ _ _) ks_X4_38 rfl rfl (Nat.le_of_ble_eq_true rfl) ⟨(Nat.le_of_ble_eq_true rfl), (Nat.le_of_ble_eq_true rfl)⟩ ⟨(Nat.le_of_ble_eq_true rfl), (Nat.le_of_ble_eq_true rfl)⟩ dX4_offsetOf_84 (fun _ _ z => False.elim z) (fun v9 ws9 h311 => ?_)
                    obtain ⟨rfl, hw9⟩ := h311
                    subst ws9
                    dsimp only [mPush]
                    refine r_if_eq (tgt := 95) hX dX4_offsetOf_87 (by decide) (fun c313 => ?_) (fun c313 => ?_)
                    · refine r_aload_n hX dX4_offsetOf_95 rfl rfl ?_
                      refine r_callV hX (c_X4_no _ _ _ _ _ _) kv_X4_80 14 rfl rfl rfl rfl (Nat.le_of_ble_eq_true rfl) ⟨(Nat.le_of_ble_eq_true rfl), (Nat.le_of_ble_eq_true rfl)⟩ ⟨(Nat.le_of_ble_eq_true rfl), (Nat.le_of_ble_eq_true rfl)⟩ dX4_offsetOf_96 (fun _ _ z => False.elim z) (fun v9 ws9 h314 => ?_)
                      obtain ⟨J316, etJ316, eJ316, rfl, hw9⟩ := h314
                      subst ws9
                      dsimp only [mPush]
                      have ho : f_off p1 p2 p3 = none := by first | exact f_off_n1 (fw18.mp (by first | assumption | exact Classical.not_not.mp (by assumption))) | exact f_off_n2 (fw59.mp (by first | assumption | exact Classical.not_not.mp (by assumption))) | exact f_off_n3 (fw59.mp (by first | assumption | exact Classical.not_not.mp (by assumption))) | exact f_off_n5 (fw64.mp (by first | assumption | exact Classical.not_not.mp (by assumption))) | exact f_off_n4 ⟨by first | exact Or.inl (by first | assumption | exact Int32.not_le.mp (by assumption)) | exact Or.inr (Or.inl (by first | assumption | exact Int32.not_le.mp (by assumption))) | exact Or.inr (Or.inr (by first | assumption | exact Int32.not_le.mp (by assumption))), by first | exact Or.inl (by first | assumption | exact Int32.not_le.mp (by assumption)) | exact Or.inr (Or.inl (by first | assumption | exact Int32.not_le.mp (by assumption))) | exact Or.inr (Or.inr (by first | assumption | exact Int32.not_le.mp (by assumption)))⟩
                      refine r_iret hX hE dX4_offsetOf_99 (Nat.le_of_ble_eq_true rfl) (Nat.le_of_ble_eq_true rfl) ⟨_, J316, Or.inl ⟨i10, hhi10, rfl, ?_, ?_, ?_⟩, (mWF2 eJ316 (mWF2 eJ7 hJ)), rfl, rfl⟩
                      · rw [etJ316]; exact etJ7.trans (by rw [hs9.1]; rfl)
                      · rw [ho]; exact ((congrArg Prod.fst eJ316).trans ((congrArg Prod.fst eJ7).trans rfl))
                      · rw [ho]; rfl
                    · refine r_iload hX dX4_offsetOf_90 rfl ?_
                      refine r_if_eq (tgt := 100) hX dX4_offsetOf_92 (by decide) (fun c317 => absurd c317 (by decide)) (fun c317 => ?_)
                      refine r_aload_n hX dX4_offsetOf_95 rfl rfl ?_
                      refine r_callV hX (c_X4_no _ _ _ _ _ _) kv_X4_80 14 rfl rfl rfl rfl (Nat.le_of_ble_eq_true rfl) ⟨(Nat.le_of_ble_eq_true rfl), (Nat.le_of_ble_eq_true rfl)⟩ ⟨(Nat.le_of_ble_eq_true rfl), (Nat.le_of_ble_eq_true rfl)⟩ dX4_offsetOf_96 (fun _ _ z => False.elim z) (fun v9 ws9 h318 => ?_)
                      obtain ⟨J320, etJ320, eJ320, rfl, hw9⟩ := h318
                      subst ws9
                      dsimp only [mPush]
                      have ho : f_off p1 p2 p3 = none := by first | exact f_off_n1 (fw18.mp (by first | assumption | exact Classical.not_not.mp (by assumption))) | exact f_off_n2 (fw59.mp (by first | assumption | exact Classical.not_not.mp (by assumption))) | exact f_off_n3 (fw59.mp (by first | assumption | exact Classical.not_not.mp (by assumption))) | exact f_off_n5 (fw64.mp (by first | assumption | exact Classical.not_not.mp (by assumption))) | exact f_off_n4 ⟨by first | exact Or.inl (by first | assumption | exact Int32.not_le.mp (by assumption)) | exact Or.inr (Or.inl (by first | assumption | exact Int32.not_le.mp (by assumption))) | exact Or.inr (Or.inr (by first | assumption | exact Int32.not_le.mp (by assumption))), by first | exact Or.inl (by first | assumption | exact Int32.not_le.mp (by assumption)) | exact Or.inr (Or.inl (by first | assumption | exact Int32.not_le.mp (by assumption))) | exact Or.inr (Or.inr (by first | assumption | exact Int32.not_le.mp (by assumption)))⟩
                      refine r_iret hX hE dX4_offsetOf_99 (Nat.le_of_ble_eq_true rfl) (Nat.le_of_ble_eq_true rfl) ⟨_, J320, Or.inl ⟨i10, hhi10, rfl, ?_, ?_, ?_⟩, (mWF2 eJ320 (mWF2 eJ7 hJ)), rfl, rfl⟩
                      · rw [etJ320]; exact etJ7.trans (by rw [hs9.1]; rfl)
                      · rw [ho]; exact ((congrArg Prod.fst eJ320).trans ((congrArg Prod.fst eJ7).trans rfl))
                      · rw [ho]; rfl
  · refine r_iconst (v := 0) hX dX4_offsetOf_12 (by decide) ?_
    have hst := off_stop nr3 etJ7 (mnone1 nr6 c8)
    exact r_iret hX hE dX4_offsetOf_13 (Nat.le_of_ble_eq_true rfl) (Nat.le_of_ble_eq_true rfl) ⟨_, J7, Or.inr (hst.elim (fun q => ⟨q.1, q.2, ((congrArg Prod.fst eJ7).trans rfl)⟩) (fun q => absurd rfl q.2.1)), (mWF2 eJ7 hJ), rfl, rfl⟩
