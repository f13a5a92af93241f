/-! The reference, its contracts (rows by a program of this repository). -/
theorem fwl {q : Int} (h1 : -9223372036854775808 ≤ q) (h2 : q < 9223372036854775808) (c : ¬ f_isWithin (lZ q) 1910 2030 = 0) : ∃ j : Nat, 1910 ≤ j ∧ j ≤ 2030 ∧ q = (j : Int) := by
  unfold f_isWithin at c
  split at c
  · rename_i hh
    have a1 := Int64.le_iff_toInt_le.mp hh.1
    have a2 := Int64.le_iff_toInt_le.mp hh.2
    rw [lZ_toInt h1 h2] at a1 a2
    have b1 : (1910 : Int64).toInt = 1910 := rfl
    have b2 : (2030 : Int64).toInt = 2030 := rfl
    exact ⟨q.toNat, by omega, by omega, by omega⟩
  · exact absurd rfl c
theorem mmod (t : Int) : ∃ mm : Nat, 1 ≤ mm ∧ mm ≤ 12 ∧ iZ (t % 12) + 1 = nI mm := by
  have h1 := Int.emod_nonneg t (show (12 : Int) ≠ 0 by decide)
  have h2 := Int.emod_lt_of_pos t (show (0 : Int) < 12 by decide)
  refine ⟨(t % 12).toNat + 1, by omega, by omega, ?_⟩
  rw [iZ_nI, show (1 : Int32) = iZ 1 from by decide, iZ_add]
  exact congrArg iZ (by omega)
theorem mall {y m : Nat} {z : Int} (hy : y < 2100) (hm : m < 14) : 12 * (nI y).toInt64 + (nI m).toInt64 - 1 + lZ z = lZ (12 * (y : Int) + (m : Int) - 1 + z) := by
  rw [nI_l (by omega), nI_l (by omega), lZ_lN, lZ_lN, show (12 : Int64) = lZ 12 from rfl, show (1 : Int64) = lZ 1 from rfl, lZ_mul, lZ_add, lZ_sub, lZ_add]
theorem dX4_putDay_0 : decode cX4_putDay 0 = .ok (.aload_n 0, 1) := by decide +kernel
theorem dX4_putDay_1 : decode cX4_putDay 1 = .ok (.getfield 17, 3) := by decide +kernel
theorem dX4_putDay_4 : decode cX4_putDay 4 = .ok (.iload_n 1, 1) := by decide +kernel
theorem dX4_putDay_5 : decode cX4_putDay 5 = .ok (.iload_n 2, 1) := by decide +kernel
theorem dX4_putDay_6 : decode cX4_putDay 6 = .ok (.iload_n 3, 1) := by decide +kernel
theorem dX4_putDay_7 : decode cX4_putDay 7 = .ok (.iload 4, 2) := by decide +kernel
theorem dX4_putDay_9 : decode cX4_putDay 9 = .ok (.iload_n 2, 1) := by decide +kernel
theorem dX4_putDay_10 : decode cX4_putDay 10 = .ok (.iload_n 3, 1) := by decide +kernel
theorem dX4_putDay_11 : decode cX4_putDay 11 = .ok (.invokestatic 55, 3) := by decide +kernel
theorem dX4_putDay_14 : decode cX4_putDay 14 = .ok (.invokestatic 178, 3) := by decide +kernel
theorem dX4_putDay_17 : decode cX4_putDay 17 = .ok (.invokestatic 163, 3) := by decide +kernel
theorem dX4_putDay_20 : decode cX4_putDay 20 = .ok (.iastore, 1) := by decide +kernel
theorem dX4_putDay_21 : decode cX4_putDay 21 = .ok (.aload_n 0, 1) := by decide +kernel
theorem dX4_putDay_22 : decode cX4_putDay 22 = .ok (.getfield 17, 3) := by decide +kernel
theorem dX4_putDay_25 : decode cX4_putDay 25 = .ok (.iload_n 1, 1) := by decide +kernel
theorem dX4_putDay_26 : decode cX4_putDay 26 = .ok (.iaload, 1) := by decide +kernel
theorem dX4_putDay_27 : decode cX4_putDay 27 = .ok (.ireturn, 1) := by decide +kernel
set_option maxHeartbeats 4000000 in
set_option maxRecDepth 20000 in
theorem c_X4_putDay (ad ae : Nat → Nat) (cs : ClassId × ClassId × ClassId) (K : mK) (J : mJ) (rest : va_W) (hJ : mWF J) (j0 : Nat) (hj0 : j0 < 4) (j1 : Nat) (hj1 : j1 < 2031) (j2 : Nat) (hj2 : j2 < 13) (j3 : Nat) (hj3 : j3 < 1000) (hy0 : 1910 ≤ j1) (hm0 : 1 ≤ j2) (hd0 : 1 ≤ j3) : mCt (mTy cs) yX4_putDay cX4_putDay 5 (some .int) ⟨4, 0, 0, 94⟩ [.ref (ae 0), .int (nI j0), .int (nI j1), .int (nI j2), .int (nI j3)] (mRw ad ae cs K J rest) (mZi ad ae cs K J rest) mNo := by
  refine mCt.of (by decide +kernel) (Nat.le_of_ble_eq_true rfl) (fun X hX hE => ?_)
  have hX : mOK X RX4 cX4_putDay 5 ⟨4, 0, 0, 94⟩ [] (mTy cs) := hX
  refine r_aload_n hX dX4_putDay_0 rfl rfl ?_
  refine r_get hX kf_X4_17 14 rfl rfl dX4_putDay_1 ?_
  refine r_iload_n hX dX4_putDay_4 rfl rfl ?_
  refine r_iload_n hX dX4_putDay_5 rfl rfl ?_
  refine r_iload_n hX dX4_putDay_6 rfl rfl ?_
  refine r_iload hX dX4_putDay_7 rfl ?_
  refine r_iload_n hX dX4_putDay_9 rfl rfl ?_
  refine r_iload_n hX dX4_putDay_10 rfl rfl ?_
  refine r_callS hX (c_X4_daysOf _ _ j1 (by omega) j2 (by omega)) ks_X4_55 rfl rfl (Nat.le_of_ble_eq_true rfl) ⟨(Nat.le_of_ble_eq_true rfl), (Nat.le_of_ble_eq_true rfl)⟩ ⟨(Nat.le_of_ble_eq_true rfl), (Nat.le_of_ble_eq_true rfl)⟩ dX4_putDay_11 (fun _ _ z => False.elim z) (fun v9 ws9 h1 => ?_)
  obtain ⟨rfl, hw9⟩ := h1
  subst ws9
  dsimp only [mPush]
  have hdm3 := dm_b j1 j2
  refine r_callS hX (c_J9_min_x _ _ j3 (dm j1 j2) (by omega) (by omega)) ks_X4_178 rfl rfl (Nat.le_of_ble_eq_true rfl) ⟨(Nat.le_of_ble_eq_true rfl), (Nat.le_of_ble_eq_true rfl)⟩ ⟨(Nat.le_of_ble_eq_true rfl), (Nat.le_of_ble_eq_true rfl)⟩ dX4_putDay_14 (fun _ _ z => False.elim z) (fun v9 ws9 h4 => ?_)
  obtain ⟨rfl, hw9⟩ := h4
  subst ws9
  dsimp only [mPush]
  refine r_callS hX (c_X4_dayOf _ _ j1 (by omega) (by omega) j2 (by omega) (by omega) (min j3 (dm j1 j2)) (by omega)) ks_X4_163 rfl rfl (Nat.le_of_ble_eq_true rfl) ⟨(Nat.le_of_ble_eq_true rfl), (Nat.le_of_ble_eq_true rfl)⟩ ⟨(Nat.le_of_ble_eq_true rfl), (Nat.le_of_ble_eq_true rfl)⟩ dX4_putDay_17 (fun _ _ z => False.elim z) (fun v9 ws9 h6 => ?_)
  obtain ⟨rfl, hw9⟩ := h6
  subst ws9
  dsimp only [mPush]
  have hdi8 := day_in (y := j1) (m := j2) (d := (min j3 (dm j1 j2))) (by omega) (by omega) (by omega) (by omega) (by omega) (by omega)
  refine r_iast hX 17 0 rfl rfl (vp_in_nI (Nat.lt_of_lt_of_le hj0 (by decide)) (by decide)) dX4_putDay_20 ?_
  refine r_eqw (ws' := mRw ad ae cs K (J.1, J.2.1, J.2.2.1, upd J.2.2.2.1 ((nI j0)).toNatClampNeg _, J.2.2.2.2.1, J.2.2.2.2.2.1, J.2.2.2.2.2.2) rest) rfl ?_
  refine r_aload_n hX dX4_putDay_21 rfl rfl ?_
  refine r_get hX kf_X4_17 14 rfl rfl dX4_putDay_22 ?_
  refine r_iload_n hX dX4_putDay_25 rfl rfl ?_
  refine r_iald hX 17 0 rfl rfl (vp_in_nI (Nat.lt_of_lt_of_le hj0 (by decide)) (by decide)) dX4_putDay_26 ?_
  exact r_iret hX hE dX4_putDay_27 (Nat.le_of_ble_eq_true rfl) (Nat.le_of_ble_eq_true rfl) ⟨_, (J.1, J.2.1, J.2.2.1, upd J.2.2.2.1 ((nI j0)).toNatClampNeg _, J.2.2.2.2.1, J.2.2.2.2.2.1, J.2.2.2.2.2.2), (mWF.put hJ ⟨_, rfl, hdi8.1, hdi8.2⟩), rfl, rfl, rfl⟩
theorem dX4_moveMonths_0 : decode cX4_moveMonths 0 = .ok (.aload_n 0, 1) := by decide +kernel
theorem dX4_moveMonths_1 : decode cX4_moveMonths 1 = .ok (.getfield 17, 3) := by decide +kernel
theorem dX4_moveMonths_4 : decode cX4_moveMonths 4 = .ok (.iload_n 1, 1) := by decide +kernel
theorem dX4_moveMonths_5 : decode cX4_moveMonths 5 = .ok (.iaload, 1) := by decide +kernel
theorem dX4_moveMonths_6 : decode cX4_moveMonths 6 = .ok (.invokestatic 170, 3) := by decide +kernel
theorem dX4_moveMonths_9 : decode cX4_moveMonths 9 = .ok (.astore 4, 2) := by decide +kernel
theorem dX4_moveMonths_11 : decode cX4_moveMonths 11 = .ok (.ldc2_w 151, 3) := by decide +kernel
theorem dX4_moveMonths_14 : decode cX4_moveMonths 14 = .ok (.aload 4, 2) := by decide +kernel
theorem dX4_moveMonths_16 : decode cX4_moveMonths 16 = .ok (.iconst 0, 1) := by decide +kernel
theorem dX4_moveMonths_17 : decode cX4_moveMonths 17 = .ok (.iaload, 1) := by decide +kernel
theorem dX4_moveMonths_18 : decode cX4_moveMonths 18 = .ok (.i2l, 1) := by decide +kernel
theorem dX4_moveMonths_19 : decode cX4_moveMonths 19 = .ok (.lmul, 1) := by decide +kernel
theorem dX4_moveMonths_20 : decode cX4_moveMonths 20 = .ok (.aload 4, 2) := by decide +kernel
theorem dX4_moveMonths_22 : decode cX4_moveMonths 22 = .ok (.iconst 1, 1) := by decide +kernel
theorem dX4_moveMonths_23 : decode cX4_moveMonths 23 = .ok (.iaload, 1) := by decide +kernel
theorem dX4_moveMonths_24 : decode cX4_moveMonths 24 = .ok (.i2l, 1) := by decide +kernel
theorem dX4_moveMonths_25 : decode cX4_moveMonths 25 = .ok (.ladd, 1) := by decide +kernel
theorem dX4_moveMonths_26 : decode cX4_moveMonths 26 = .ok (.lconst 1, 1) := by decide +kernel
theorem dX4_moveMonths_27 : decode cX4_moveMonths 27 = .ok (.lsub, 1) := by decide +kernel
theorem dX4_moveMonths_28 : decode cX4_moveMonths 28 = .ok (.lload_n 2, 1) := by decide +kernel
theorem dX4_moveMonths_29 : decode cX4_moveMonths 29 = .ok (.ladd, 1) := by decide +kernel
theorem dX4_moveMonths_30 : decode cX4_moveMonths 30 = .ok (.lstore 5, 2) := by decide +kernel
theorem dX4_moveMonths_32 : decode cX4_moveMonths 32 = .ok (.lload 5, 2) := by decide +kernel
theorem dX4_moveMonths_34 : decode cX4_moveMonths 34 = .ok (.ldc2_w 151, 3) := by decide +kernel
theorem dX4_moveMonths_37 : decode cX4_moveMonths 37 = .ok (.invokestatic 92, 3) := by decide +kernel
theorem dX4_moveMonths_40 : decode cX4_moveMonths 40 = .ok (.lstore 7, 2) := by decide +kernel
theorem dX4_moveMonths_42 : decode cX4_moveMonths 42 = .ok (.lload 7, 2) := by decide +kernel
theorem dX4_moveMonths_44 : decode cX4_moveMonths 44 = .ok (.ldc2_w 147, 3) := by decide +kernel
theorem dX4_moveMonths_47 : decode cX4_moveMonths 47 = .ok (.ldc2_w 149, 3) := by decide +kernel
theorem dX4_moveMonths_50 : decode cX4_moveMonths 50 = .ok (.invokestatic 38, 3) := by decide +kernel
theorem dX4_moveMonths_53 : decode cX4_moveMonths 53 = .ok (.ifCond .ne 8, 3) := by decide +kernel
theorem dX4_moveMonths_56 : decode cX4_moveMonths 56 = .ok (.aload_n 0, 1) := by decide +kernel
theorem dX4_moveMonths_57 : decode cX4_moveMonths 57 = .ok (.invokevirtual 80, 3) := by decide +kernel
theorem dX4_moveMonths_60 : decode cX4_moveMonths 60 = .ok (.ireturn, 1) := by decide +kernel
theorem dX4_moveMonths_61 : decode cX4_moveMonths 61 = .ok (.aload_n 0, 1) := by decide +kernel
theorem dX4_moveMonths_62 : decode cX4_moveMonths 62 = .ok (.iload_n 1, 1) := by decide +kernel
theorem dX4_moveMonths_63 : decode cX4_moveMonths 63 = .ok (.lload 7, 2) := by decide +kernel
theorem dX4_moveMonths_65 : decode cX4_moveMonths 65 = .ok (.l2i, 1) := by decide +kernel
theorem dX4_moveMonths_66 : decode cX4_moveMonths 66 = .ok (.lload 5, 2) := by decide +kernel
theorem dX4_moveMonths_68 : decode cX4_moveMonths 68 = .ok (.ldc2_w 151, 3) := by decide +kernel
theorem dX4_moveMonths_71 : decode cX4_moveMonths 71 = .ok (.invokestatic 102, 3) := by decide +kernel
theorem dX4_moveMonths_74 : decode cX4_moveMonths 74 = .ok (.iconst 1, 1) := by decide +kernel
theorem dX4_moveMonths_75 : decode cX4_moveMonths 75 = .ok (.iadd, 1) := by decide +kernel
theorem dX4_moveMonths_76 : decode cX4_moveMonths 76 = .ok (.aload 4, 2) := by decide +kernel
theorem dX4_moveMonths_78 : decode cX4_moveMonths 78 = .ok (.iconst 2, 1) := by decide +kernel
theorem dX4_moveMonths_79 : decode cX4_moveMonths 79 = .ok (.iaload, 1) := by decide +kernel
theorem dX4_moveMonths_80 : decode cX4_moveMonths 80 = .ok (.invokevirtual 174, 3) := by decide +kernel
theorem dX4_moveMonths_83 : decode cX4_moveMonths 83 = .ok (.ireturn, 1) := by decide +kernel
set_option maxHeartbeats 4000000 in
set_option maxRecDepth 20000 in
theorem c_X4_moveMonths (ad ae : Nat → Nat) (cs : ClassId × ClassId × ClassId) (K : mK) (J : mJ) (rest : va_W) (hJ : mWF J) (j0 : Nat) (hj0 : j0 < 4) (p1 : Int64) (hz : mbP p1) : mCt (mTy cs) yX4_moveMonths cX4_moveMonths 9 (some .int) ⟨5, 1, 4, 119⟩ [.ref (ae 0), .int (nI j0), .long p1] (mRw ad ae cs K J rest) (mZi ad ae cs K J rest) mNo := by
  refine mCt.of (by decide +kernel) (Nat.le_of_ble_eq_true rfl) (fun X hX hE => ?_)
  have hX : mOK X RX4 cX4_moveMonths 9 ⟨5, 1, 4, 119⟩ [] (mTy cs) := hX
  refine r_aload_n hX dX4_moveMonths_0 rfl rfl ?_
  refine r_get hX kf_X4_17 14 rfl rfl dX4_moveMonths_1 ?_
  refine r_iload_n hX dX4_moveMonths_4 rfl rfl ?_
  refine r_iald hX 17 0 rfl rfl (vp_in_nI (Nat.lt_of_lt_of_le hj0 (by decide)) (by decide)) dX4_moveMonths_5 ?_
  obtain ⟨d1, ed1, ld1, ud1⟩ := (mday hJ (Nat.lt_of_lt_of_le hj0 (by decide)))
  rw [ed1]
  refine r_callS hX (c_X4_parts cs _ d1 ld1 ud1) ks_X4_170 rfl rfl (Nat.le_of_ble_eq_true rfl) ⟨(Nat.le_of_ble_eq_true rfl), (Nat.le_of_ble_eq_true rfl)⟩ ⟨(Nat.le_of_ble_eq_true rfl), (Nat.le_of_ble_eq_true rfl)⟩ dX4_moveMonths_6 (fun _ _ z => False.elim z) (fun v9 ws9 h2 => ?_)
  obtain ⟨y4, m5, dd6, f7, q8, hyy4, hyy42, hmm5, hmm52, hddd6, hddd62, hsf7, f0f7, f1f7, f2f7, rfl, hw9⟩ := h2
  subst ws9
  dsimp only [mPush]
  rw [mRw_app]
  have hdmdd6 := dm_b y4 m5
  refine r_astore hX dX4_moveMonths_9 (by decide) rfl ?_
  refine r_ldc2 hX kc_X4_151 dX4_moveMonths_11 ?_
  refine r_aload hX dX4_moveMonths_14 rfl ?_
  refine r_iconst (v := 0) hX dX4_moveMonths_16 (by decide) ?_
  refine r_iald hX (rest.length + 21) 0 mLast rfl (vp_in_nI (n := 0) (N := 4) (by decide) (by decide)) dX4_moveMonths_17 ?_
  rw [show (0 : Int32).toNatClampNeg = 0 from by decide, f0f7]
  refine r_i2l hX dX4_moveMonths_18 ?_
  refine r_lmul hX dX4_moveMonths_19 ?_
  refine r_aload hX dX4_moveMonths_20 rfl ?_
  refine r_iconst (v := 1) hX dX4_moveMonths_22 (by decide) ?_
  refine r_iald hX (rest.length + 21) 0 mLast rfl (vp_in_nI (n := 1) (N := 4) (by decide) (by decide)) dX4_moveMonths_23 ?_
  rw [show (1 : Int32).toNatClampNeg = 1 from by decide, f1f7]
  refine r_i2l hX dX4_moveMonths_24 ?_
  refine r_ladd hX dX4_moveMonths_25 ?_
  refine r_lconst (v := 1) hX dX4_moveMonths_26 (by decide) ?_
  refine r_lsub hX dX4_moveMonths_27 ?_
  refine r_lload_n hX dX4_moveMonths_28 rfl rfl ?_
  refine r_ladd hX dX4_moveMonths_29 ?_
  obtain ⟨z, ez, hz1, hz2⟩ := hz
  rw [ez, mall (by omega) (by omega)]
  refine r_lstore hX dX4_moveMonths_30 (by decide) rfl ?_
  refine r_lload hX dX4_moveMonths_32 rfl ?_
  refine r_ldc2 hX kc_X4_151 dX4_moveMonths_34 ?_
  refine r_callS hX (c_X4_whole_x _ _ (12 * (y4 : Int) + (m5 : Int) - 1 + z) 12 (by omega) (by omega) (by decide) (by decide)) ks_X4_92 rfl rfl (Nat.le_of_ble_eq_true rfl) ⟨(Nat.le_of_ble_eq_true rfl), (Nat.le_of_ble_eq_true rfl)⟩ ⟨(Nat.le_of_ble_eq_true rfl), (Nat.le_of_ble_eq_true rfl)⟩ dX4_moveMonths_37 (fun _ _ z => False.elim z) (fun v9 ws9 h9 => ?_)
  obtain ⟨rfl, hw9⟩ := h9
  subst ws9
  dsimp only [mPush]
  refine r_lstore hX dX4_moveMonths_40 (by decide) rfl ?_
  refine r_lload hX dX4_moveMonths_42 rfl ?_
  refine r_ldc2 hX kc_X4_147 dX4_moveMonths_44 ?_
  refine r_ldc2 hX kc_X4_149 dX4_moveMonths_47 ?_
  refine r_callS hX (c_X4_isIn _ _ _ _ _) ks_X4_38 rfl rfl (Nat.le_of_ble_eq_true rfl) ⟨(Nat.le_of_ble_eq_true rfl), (Nat.le_of_ble_eq_true rfl)⟩ ⟨(Nat.le_of_ble_eq_true rfl), (Nat.le_of_ble_eq_true rfl)⟩ dX4_moveMonths_50 (fun _ _ z => False.elim z) (fun v9 ws9 h11 => ?_)
  obtain ⟨rfl, hw9⟩ := h11
  subst ws9
  dsimp only [mPush]
  refine r_if_ne (tgt := 61) hX dX4_moveMonths_53 (by decide) (fun c13 => ?_) (fun c13 => ?_)
  · have hq : -9223372036854775808 ≤ (12 * (y4 : Int) + (m5 : Int) - 1 + z) / 12 ∧ (12 * (y4 : Int) + (m5 : Int) - 1 + z) / 12 < 9223372036854775808 := by omega
    obtain ⟨yy, hyy1, hyy2, eyy⟩ := fwl hq.1 hq.2 c13
    refine r_aload_n hX dX4_moveMonths_61 rfl rfl ?_
    refine r_iload_n hX dX4_moveMonths_62 rfl rfl ?_
    refine r_lload hX dX4_moveMonths_63 rfl ?_
    refine r_l2i hX dX4_moveMonths_65 ?_
    rw [show (lZ ((12 * (y4 : Int) + (m5 : Int) - 1 + z) / 12)).toInt32 = nI yy from by rw [eyy, Int64.toInt32_ofInt, iZ_nI]]
    refine r_lload hX dX4_moveMonths_66 rfl ?_
    refine r_ldc2 hX kc_X4_151 dX4_moveMonths_68 ?_
    refine r_callS hX (c_X4_rest_x _ _ (12 * (y4 : Int) + (m5 : Int) - 1 + z) 12 (by omega) (by omega) (by decide) (by decide)) ks_X4_102 rfl rfl (Nat.le_of_ble_eq_true rfl) ⟨(Nat.le_of_ble_eq_true rfl), (Nat.le_of_ble_eq_true rfl)⟩ ⟨(Nat.le_of_ble_eq_true rfl), (Nat.le_of_ble_eq_true rfl)⟩ dX4_moveMonths_71 (fun _ _ z => False.elim z) (fun v9 ws9 h14 => ?_)
    obtain ⟨rfl, hw9⟩ := h14
    subst ws9
    dsimp only [mPush]
    refine r_iconst (v := 1) hX dX4_moveMonths_74 (by decide) ?_
    refine r_iadd hX dX4_moveMonths_75 ?_
    obtain ⟨mm, hmm1, hmm2, emm⟩ := mmod (12 * (y4 : Int) + (m5 : Int) - 1 + z)
    rw [emm]
    refine r_aload hX dX4_moveMonths_76 rfl ?_
    refine r_iconst (v := 2) hX dX4_moveMonths_78 (by decide) ?_
    refine r_iald hX (rest.length + 21) 0 mLast rfl (vp_in_nI (n := 2) (N := 4) (by decide) (by decide)) dX4_moveMonths_79 ?_
    rw [show (2 : Int32).toNatClampNeg = 2 from by decide, f2f7]
    refine r_callV hX (c_X4_putDay _ _ _ _ J _ hJ j0 hj0 yy (by omega) mm (by omega) dd6 (by omega) (by omega) (by omega) (by omega)) kv_X4_174 14 rfl rfl rfl rfl (Nat.le_of_ble_eq_true rfl) ⟨(Nat.le_of_ble_eq_true rfl), (Nat.le_of_ble_eq_true rfl)⟩ ⟨(Nat.le_of_ble_eq_true rfl), (Nat.le_of_ble_eq_true rfl)⟩ dX4_moveMonths_80 (fun _ _ z => False.elim z) (fun v9 ws9 h16 => ?_)
    obtain ⟨r18, J19, hJ19, oJ19, rfl, hw9⟩ := h16
    subst ws9
    dsimp only [mPush]
    refine r_eqw (mRw_app (rest := rest)).symm (r_drop ?_)
    exact r_iret hX hE dX4_moveMonths_83 (Nat.le_of_ble_eq_true rfl) (Nat.le_of_ble_eq_true rfl) ⟨_, J19, hJ19, (oJ19.trans rfl), rfl, rfl⟩
  · refine r_aload_n hX dX4_moveMonths_56 rfl rfl ?_
    refine r_callV hX (c_X4_no _ _ _ _ _ _) kv_X4_80 14 rfl rfl rfl rfl (Nat.le_of_ble_eq_true rfl) ⟨(Nat.le_of_ble_eq_true rfl), (Nat.le_of_ble_eq_true rfl)⟩ ⟨(Nat.le_of_ble_eq_true rfl), (Nat.le_of_ble_eq_true rfl)⟩ dX4_moveMonths_57 (fun _ _ z => False.elim z) (fun v9 ws9 h20 => ?_)
    obtain ⟨J22, etJ22, eJ22, rfl, hw9⟩ := h20
    subst ws9
    dsimp only [mPush]
    refine r_eqw (mRw_app (rest := rest)).symm (r_drop ?_)
    exact r_iret hX hE dX4_moveMonths_60 (Nat.le_of_ble_eq_true rfl) (Nat.le_of_ble_eq_true rfl) ⟨_, J22, (mWF2 eJ22 hJ), ((congrArg Prod.fst eJ22).trans rfl), rfl, rfl⟩
theorem dX4_date_0 : decode cX4_date 0 = .ok (.aload_n 0, 1) := by decide +kernel
theorem dX4_date_1 : decode cX4_date 1 = .ok (.iload_n 1, 1) := by decide +kernel
theorem dX4_date_2 : decode cX4_date 2 = .ok (.invokestatic 61, 3) := by decide +kernel
theorem dX4_date_5 : decode cX4_date 5 = .ok (.ifCond .ne 11, 3) := by decide +kernel
theorem dX4_date_8 : decode cX4_date 8 = .ok (.iload 6, 2) := by decide +kernel
theorem dX4_date_10 : decode cX4_date 10 = .ok (.invokestatic 61, 3) := by decide +kernel
theorem dX4_date_13 : decode cX4_date 13 = .ok (.ifCond .eq 7, 3) := by decide +kernel
theorem dX4_date_16 : decode cX4_date 16 = .ok (.iconst 1, 1) := by decide +kernel
theorem dX4_date_17 : decode cX4_date 17 = .ok (.goto 4, 3) := by decide +kernel
theorem dX4_date_20 : decode cX4_date 20 = .ok (.iconst 0, 1) := by decide +kernel
theorem dX4_date_21 : decode cX4_date 21 = .ok (.iload_n 3, 1) := by decide +kernel
theorem dX4_date_22 : decode cX4_date 22 = .ok (.i2l, 1) := by decide +kernel
theorem dX4_date_23 : decode cX4_date 23 = .ok (.lconst 0, 1) := by decide +kernel
theorem dX4_date_24 : decode cX4_date 24 = .ok (.ldc2_w 153, 3) := by decide +kernel
theorem dX4_date_27 : decode cX4_date 27 = .ok (.invokestatic 38, 3) := by decide +kernel
theorem dX4_date_30 : decode cX4_date 30 = .ok (.ifCond .eq 13, 3) := by decide +kernel
theorem dX4_date_33 : decode cX4_date 33 = .ok (.iload 4, 2) := by decide +kernel
theorem dX4_date_35 : decode cX4_date 35 = .ok (.iload 5, 2) := by decide +kernel
theorem dX4_date_37 : decode cX4_date 37 = .ok (.invokestatic 155, 3) := by decide +kernel
theorem dX4_date_40 : decode cX4_date 40 = .ok (.ifCond .ne 7, 3) := by decide +kernel
theorem dX4_date_43 : decode cX4_date 43 = .ok (.iconst 1, 1) := by decide +kernel
theorem dX4_date_44 : decode cX4_date 44 = .ok (.goto 4, 3) := by decide +kernel
theorem dX4_date_47 : decode cX4_date 47 = .ok (.iconst 0, 1) := by decide +kernel
theorem dX4_date_48 : decode cX4_date 48 = .ok (.invokevirtual 68, 3) := by decide +kernel
theorem dX4_date_51 : decode cX4_date 51 = .ok (.ifCond .eq 5, 3) := by decide +kernel
theorem dX4_date_54 : decode cX4_date 54 = .ok (.iconst 0, 1) := by decide +kernel
theorem dX4_date_55 : decode cX4_date 55 = .ok (.ireturn, 1) := by decide +kernel
theorem dX4_date_56 : decode cX4_date 56 = .ok (.iload_n 2, 1) := by decide +kernel
theorem dX4_date_57 : decode cX4_date 57 = .ok (.iload_n 3, 1) := by decide +kernel
theorem dX4_date_58 : decode cX4_date 58 = .ok (.bipush 100, 2) := by decide +kernel
theorem dX4_date_60 : decode cX4_date 60 = .ok (.idiv, 1) := by decide +kernel
theorem dX4_date_61 : decode cX4_date 61 = .ok (.iload_n 3, 1) := by decide +kernel
theorem dX4_date_62 : decode cX4_date 62 = .ok (.bipush 100, 2) := by decide +kernel
theorem dX4_date_64 : decode cX4_date 64 = .ok (.irem, 1) := by decide +kernel
theorem dX4_date_65 : decode cX4_date 65 = .ok (.invokestatic 159, 3) := by decide +kernel
theorem dX4_date_68 : decode cX4_date 68 = .ok (.ifCond .eq 34, 3) := by decide +kernel
theorem dX4_date_71 : decode cX4_date 71 = .ok (.aload_n 0, 1) := by decide +kernel
theorem dX4_date_72 : decode cX4_date 72 = .ok (.iload_n 1, 1) := by decide +kernel
theorem dX4_date_73 : decode cX4_date 73 = .ok (.iload_n 2, 1) := by decide +kernel
theorem dX4_date_74 : decode cX4_date 74 = .ok (.iload_n 3, 1) := by decide +kernel
theorem dX4_date_75 : decode cX4_date 75 = .ok (.bipush 100, 2) := by decide +kernel
theorem dX4_date_77 : decode cX4_date 77 = .ok (.idiv, 1) := by decide +kernel
theorem dX4_date_78 : decode cX4_date 78 = .ok (.iload_n 3, 1) := by decide +kernel
theorem dX4_date_79 : decode cX4_date 79 = .ok (.bipush 100, 2) := by decide +kernel
theorem dX4_date_81 : decode cX4_date 81 = .ok (.irem, 1) := by decide +kernel
theorem dX4_date_82 : decode cX4_date 82 = .ok (.invokestatic 163, 3) := by decide +kernel
theorem dX4_date_85 : decode cX4_date 85 = .ok (.iload 4, 2) := by decide +kernel
theorem dX4_date_87 : decode cX4_date 87 = .ok (.iload 5, 2) := by decide +kernel
theorem dX4_date_89 : decode cX4_date 89 = .ok (.aload_n 0, 1) := by decide +kernel
theorem dX4_date_90 : decode cX4_date 90 = .ok (.getfield 7, 3) := by decide +kernel
theorem dX4_date_93 : decode cX4_date 93 = .ok (.iload 6, 2) := by decide +kernel
theorem dX4_date_95 : decode cX4_date 95 = .ok (.iaload, 1) := by decide +kernel
theorem dX4_date_96 : decode cX4_date 96 = .ok (.invokevirtual 139, 3) := by decide +kernel
theorem dX4_date_99 : decode cX4_date 99 = .ok (.goto 7, 3) := by decide +kernel
theorem dX4_date_102 : decode cX4_date 102 = .ok (.aload_n 0, 1) := by decide +kernel
theorem dX4_date_103 : decode cX4_date 103 = .ok (.invokevirtual 80, 3) := by decide +kernel
theorem dX4_date_106 : decode cX4_date 106 = .ok (.ireturn, 1) := by decide +kernel
set_option maxHeartbeats 4000000 in
set_option maxRecDepth 20000 in
theorem c_X4_date (ad ae : Nat → Nat) (cs : ClassId × ClassId × ClassId) (K : mK) (J : mJ) (rest : va_W) (hJ : mWF J) (p0 : Int32) (p1 : Int32) (p2 : Int32) (p3 : Int32) (p4 : Int32) (p5 : Int32) : mCt (mTy cs) yX4_date cX4_date 7 (some .int) ⟨4, 0, 0, 94⟩ [.ref (ae 0), .int p0, .int p1, .int p2, .int p3, .int p4, .int p5] (mRw ad ae cs K J rest) (mZi ad ae cs K J rest) mNo := by
  refine mCt.of (by decide +kernel) (Nat.le_of_ble_eq_true rfl) (fun X hX hE => ?_)
  have hX : mOK X RX4 cX4_date 7 ⟨4, 0, 0, 94⟩ [] (mTy cs) := hX
  refine r_aload_n hX dX4_date_0 rfl rfl ?_
  refine r_iload_n hX dX4_date_1 rfl rfl ?_
  refine r_callS hX (c_X4_isNone _ _ _) ks_X4_61 rfl rfl (Nat.le_of_ble_eq_true rfl) ⟨(Nat.le_of_ble_eq_true rfl), (Nat.le_of_ble_eq_true rfl)⟩ ⟨(Nat.le_of_ble_eq_true rfl), (Nat.le_of_ble_eq_true rfl)⟩ dX4_date_2 (fun _ _ z => False.elim z) (fun v9 ws9 h1 => ?_)
  obtain ⟨r3, nr3, rfl, hw9⟩ := h1
  subst ws9
  dsimp only [mPush]
  refine r_if_ne (tgt := 16) hX dX4_date_5 (by decide) (fun c4 => ?_) (fun c4 => ?_)
  · refine r_iconst (v := 1) hX dX4_date_16 (by decide) ?_
    refine r_goto (tgt := 21) hX dX4_date_17 (by decide) ?_
    refine r_iload_n hX dX4_date_21 rfl rfl ?_
    refine r_i2l hX dX4_date_22 ?_
    refine r_lconst (v := 0) hX dX4_date_23 (by decide) ?_
    refine r_ldc2 hX kc_X4_153 dX4_date_24 ?_
    refine r_callS hX (c_X4_isIn _ _ _ _ _) ks_X4_38 rfl rfl (Nat.le_of_ble_eq_true rfl) ⟨(Nat.le_of_ble_eq_true rfl), (Nat.le_of_ble_eq_true rfl)⟩ ⟨(Nat.le_of_ble_eq_true rfl), (Nat.le_of_ble_eq_true rfl)⟩ dX4_date_27 (fun _ _ z => False.elim z) (fun v9 ws9 h5 => ?_)
    obtain ⟨rfl, hw9⟩ := h5
    subst ws9
    dsimp only [mPush]
    refine r_if_eq (tgt := 43) hX dX4_date_30 (by decide) (fun c7 => ?_) (fun c7 => ?_)
    · refine r_iconst (v := 1) hX dX4_date_43 (by decide) ?_
      refine r_goto (tgt := 48) hX dX4_date_44 (by decide) ?_
      refine r_callV hX (c_X4_isStopped _ _ _ _ _ _ _ _) kv_X4_68 14 rfl rfl rfl rfl (Nat.le_of_ble_eq_true rfl) ⟨(Nat.le_of_ble_eq_true rfl), (Nat.le_of_ble_eq_true rfl)⟩ ⟨(Nat.le_of_ble_eq_true rfl), (Nat.le_of_ble_eq_true rfl)⟩ dX4_date_48 (fun _ _ z => False.elim z) (fun v9 ws9 h8 => ?_)
      obtain ⟨r10, J11, nr10, etJ11, erJ11, eJ11, rfl, hw9⟩ := h8
      subst ws9
      dsimp only [mPush]
      refine r_if_eq (tgt := 56) hX dX4_date_51 (by decide) (fun c12 => ?_) (fun c12 => ?_)
      · have hs13 := mnone0 nr10 (by first | exact c12 | exact Classical.not_not.mp c12)
        exact absurd hs13.1 (by decide)
      · refine r_iconst (v := 0) hX dX4_date_54 (by decide) ?_
        exact r_iret hX hE dX4_date_55 (Nat.le_of_ble_eq_true rfl) (Nat.le_of_ble_eq_true rfl) ⟨_, J11, (mWF2 eJ11 hJ), ((congrArg Prod.fst eJ11).trans rfl), rfl, rfl⟩
    · obtain ⟨i14, li14, hhi14, rfl⟩ := fwin 0 9999 (by decide) (by decide) (by decide) (by decide) c7
      refine r_iload hX dX4_date_33 rfl ?_
      refine r_iload hX dX4_date_35 rfl ?_
      refine r_callS hX (c_X4_isTime _ _ _ _) ks_X4_155 rfl rfl (Nat.le_of_ble_eq_true rfl) ⟨(Nat.le_of_ble_eq_true rfl), (Nat.le_of_ble_eq_true rfl)⟩ ⟨(Nat.le_of_ble_eq_true rfl), (Nat.le_of_ble_eq_true rfl)⟩ dX4_date_37 (fun _ _ z => False.elim z) (fun v9 ws9 h15 => ?_)
      obtain ⟨r17, br17, rfl, hw9⟩ := h15
      subst ws9
      dsimp only [mPush]
      refine r_if_ne (tgt := 47) hX dX4_date_40 (by decide) (fun c18 => ?_) (fun c18 => ?_)
      · refine r_iconst (v := 0) hX dX4_date_47 (by decide) ?_
        refine r_callV hX (c_X4_isStopped _ _ _ _ _ _ _ _) kv_X4_68 14 rfl rfl rfl rfl (Nat.le_of_ble_eq_true rfl) ⟨(Nat.le_of_ble_eq_true rfl), (Nat.le_of_ble_eq_true rfl)⟩ ⟨(Nat.le_of_ble_eq_true rfl), (Nat.le_of_ble_eq_true rfl)⟩ dX4_date_48 (fun _ _ z => False.elim z) (fun v9 ws9 h19 => ?_)
        obtain ⟨r21, J22, nr21, etJ22, erJ22, eJ22, rfl, hw9⟩ := h19
        subst ws9
        dsimp only [mPush]
        refine r_if_eq (tgt := 56) hX dX4_date_51 (by decide) (fun c23 => ?_) (fun c23 => ?_)
        · have hs24 := mnone0 nr21 (by first | exact c23 | exact Classical.not_not.mp c23)
          exact absurd hs24.1 (by decide)
        · refine r_iconst (v := 0) hX dX4_date_54 (by decide) ?_
          exact r_iret hX hE dX4_date_55 (Nat.le_of_ble_eq_true rfl) (Nat.le_of_ble_eq_true rfl) ⟨_, J22, (mWF2 eJ22 hJ), ((congrArg Prod.fst eJ22).trans rfl), rfl, rfl⟩
      · refine r_iconst (v := 1) hX dX4_date_43 (by decide) ?_
        refine r_goto (tgt := 48) hX dX4_date_44 (by decide) ?_
        refine r_callV hX (c_X4_isStopped _ _ _ _ _ _ _ _) kv_X4_68 14 rfl rfl rfl rfl (Nat.le_of_ble_eq_true rfl) ⟨(Nat.le_of_ble_eq_true rfl), (Nat.le_of_ble_eq_true rfl)⟩ ⟨(Nat.le_of_ble_eq_true rfl), (Nat.le_of_ble_eq_true rfl)⟩ dX4_date_48 (fun _ _ z => False.elim z) (fun v9 ws9 h25 => ?_)
        obtain ⟨r27, J28, nr27, etJ28, erJ28, eJ28, rfl, hw9⟩ := h25
        subst ws9
        dsimp only [mPush]
        refine r_if_eq (tgt := 56) hX dX4_date_51 (by decide) (fun c29 => ?_) (fun c29 => ?_)
        · have hs30 := mnone0 nr27 (by first | exact c29 | exact Classical.not_not.mp c29)
          exact absurd hs30.1 (by decide)
        · refine r_iconst (v := 0) hX dX4_date_54 (by decide) ?_
          exact r_iret hX hE dX4_date_55 (Nat.le_of_ble_eq_true rfl) (Nat.le_of_ble_eq_true rfl) ⟨_, J28, (mWF2 eJ28 hJ), ((congrArg Prod.fst eJ28).trans rfl), rfl, rfl⟩
  · obtain ⟨i31, hhi31, rfl⟩ := mnone0 nr3 (by first | exact c4 | exact Classical.not_not.mp c4)
    refine r_iload hX dX4_date_8 rfl ?_
    refine r_callS hX (c_X4_isNone _ _ _) ks_X4_61 rfl rfl (Nat.le_of_ble_eq_true rfl) ⟨(Nat.le_of_ble_eq_true rfl), (Nat.le_of_ble_eq_true rfl)⟩ ⟨(Nat.le_of_ble_eq_true rfl), (Nat.le_of_ble_eq_true rfl)⟩ dX4_date_10 (fun _ _ z => False.elim z) (fun v9 ws9 h32 => ?_)
    obtain ⟨r34, nr34, rfl, hw9⟩ := h32
    subst ws9
    dsimp only [mPush]
    refine r_if_eq (tgt := 20) hX dX4_date_13 (by decide) (fun c35 => ?_) (fun c35 => ?_)
    · obtain ⟨i36, hhi36, rfl⟩ := mnone0 nr34 (by first | exact c35 | exact Classical.not_not.mp c35)
      refine r_iconst (v := 0) hX dX4_date_20 (by decide) ?_
      refine r_iload_n hX dX4_date_21 rfl rfl ?_
      refine r_i2l hX dX4_date_22 ?_
      refine r_lconst (v := 0) hX dX4_date_23 (by decide) ?_
      refine r_ldc2 hX kc_X4_153 dX4_date_24 ?_
      refine r_callS hX (c_X4_isIn _ _ _ _ _) ks_X4_38 rfl rfl (Nat.le_of_ble_eq_true rfl) ⟨(Nat.le_of_ble_eq_true rfl), (Nat.le_of_ble_eq_true rfl)⟩ ⟨(Nat.le_of_ble_eq_true rfl), (Nat.le_of_ble_eq_true rfl)⟩ dX4_date_27 (fun _ _ z => False.elim z) (fun v9 ws9 h37 => ?_)
      obtain ⟨rfl, hw9⟩ := h37
      subst ws9
      dsimp only [mPush]
      refine r_if_eq (tgt := 43) hX dX4_date_30 (by decide) (fun c39 => ?_) (fun c39 => ?_)
      · refine r_iconst (v := 1) hX dX4_date_43 (by decide) ?_
        refine r_goto (tgt := 48) hX dX4_date_44 (by decide) ?_
        refine r_callV hX (c_X4_isStopped _ _ _ _ _ _ _ _) kv_X4_68 14 rfl rfl rfl rfl (Nat.le_of_ble_eq_true rfl) ⟨(Nat.le_of_ble_eq_true rfl), (Nat.le_of_ble_eq_true rfl)⟩ ⟨(Nat.le_of_ble_eq_true rfl), (Nat.le_of_ble_eq_true rfl)⟩ dX4_date_48 (fun _ _ z => False.elim z) (fun v9 ws9 h40 => ?_)
        obtain ⟨r42, J43, nr42, etJ43, erJ43, eJ43, rfl, hw9⟩ := h40
        subst ws9
        dsimp only [mPush]
        refine r_if_eq (tgt := 56) hX dX4_date_51 (by decide) (fun c44 => ?_) (fun c44 => ?_)
        · have hs45 := mnone0 nr42 (by first | exact c44 | exact Classical.not_not.mp c44)
          exact absurd hs45.2 (by decide)
        · refine r_iconst (v := 0) hX dX4_date_54 (by decide) ?_
          exact r_iret hX hE dX4_date_55 (Nat.le_of_ble_eq_true rfl) (Nat.le_of_ble_eq_true rfl) ⟨_, J43, (mWF2 eJ43 hJ), ((congrArg Prod.fst eJ43).trans rfl), rfl, rfl⟩
      · obtain ⟨i46, li46, hhi46, rfl⟩ := fwin 0 9999 (by decide) (by decide) (by decide) (by decide) c39
        refine r_iload hX dX4_date_33 rfl ?_
        refine r_iload hX dX4_date_35 rfl ?_
        refine r_callS hX (c_X4_isTime _ _ _ _) ks_X4_155 rfl rfl (Nat.le_of_ble_eq_true rfl) ⟨(Nat.le_of_ble_eq_true rfl), (Nat.le_of_ble_eq_true rfl)⟩ ⟨(Nat.le_of_ble_eq_true rfl), (Nat.le_of_ble_eq_true rfl)⟩ dX4_date_37 (fun _ _ z => False.elim z) (fun v9 ws9 h47 => ?_)
        obtain ⟨r49, br49, rfl, hw9⟩ := h47
        subst ws9
        dsimp only [mPush]
        refine r_if_ne (tgt := 47) hX dX4_date_40 (by decide) (fun c50 => ?_) (fun c50 => ?_)
        · refine r_iconst (v := 0) hX dX4_date_47 (by decide) ?_
          refine r_callV hX (c_X4_isStopped _ _ _ _ _ _ _ _) kv_X4_68 14 rfl rfl rfl rfl (Nat.le_of_ble_eq_true rfl) ⟨(Nat.le_of_ble_eq_true rfl), (Nat.le_of_ble_eq_true rfl)⟩ ⟨(Nat.le_of_ble_eq_true rfl), (Nat.le_of_ble_eq_true rfl)⟩ dX4_date_48 (fun _ _ z => False.elim z) (fun v9 ws9 h51 => ?_)
          obtain ⟨r53, J54, nr53, etJ54, erJ54, eJ54, rfl, hw9⟩ := h51
          subst ws9
          dsimp only [mPush]
          refine r_if_eq (tgt := 56) hX dX4_date_51 (by decide) (fun c55 => ?_) (fun c55 => ?_)
          · have hs56 := mnone0 nr53 (by first | exact c55 | exact Classical.not_not.mp c55)
            refine r_iload_n hX dX4_date_56 rfl rfl ?_
            refine r_iload_n hX dX4_date_57 rfl rfl ?_
            refine r_bipush (v := 100) hX dX4_date_58 (by decide) ?_
            refine r_idiv hX dX4_date_60 (by first | decide | assumption) ?_
            refine r_iload_n hX dX4_date_61 rfl rfl ?_
            refine r_bipush (v := 100) hX dX4_date_62 (by decide) ?_
            refine r_irem hX dX4_date_64 (by first | decide | assumption) ?_
            refine r_callS hX (c_X4_isThere _ _ _ _ _) ks_X4_159 rfl rfl (Nat.le_of_ble_eq_true rfl) ⟨(Nat.le_of_ble_eq_true rfl), (Nat.le_of_ble_eq_true rfl)⟩ ⟨(Nat.le_of_ble_eq_true rfl), (Nat.le_of_ble_eq_true rfl)⟩ dX4_date_65 (fun _ _ z => False.elim z) (fun v9 ws9 h57 => ?_)
            obtain ⟨r59, nr59, rfl, hw9⟩ := h57
            subst ws9
            dsimp only [mPush]
            refine r_if_eq (tgt := 102) hX dX4_date_68 (by decide) (fun c60 => ?_) (fun c60 => ?_)
            · refine r_aload_n hX dX4_date_102 rfl rfl ?_
              refine r_callV hX (c_X4_no _ _ _ _ _ _) kv_X4_80 14 rfl rfl rfl rfl (Nat.le_of_ble_eq_true rfl) ⟨(Nat.le_of_ble_eq_true rfl), (Nat.le_of_ble_eq_true rfl)⟩ ⟨(Nat.le_of_ble_eq_true rfl), (Nat.le_of_ble_eq_true rfl)⟩ dX4_date_103 (fun _ _ z => False.elim z) (fun v9 ws9 h61 => ?_)
              obtain ⟨J63, etJ63, eJ63, rfl, hw9⟩ := h61
              subst ws9
              dsimp only [mPush]
              exact r_iret hX hE dX4_date_106 (Nat.le_of_ble_eq_true rfl) (Nat.le_of_ble_eq_true rfl) ⟨_, J63, (mWF2 eJ63 (mWF2 eJ54 hJ)), ((congrArg Prod.fst eJ63).trans ((congrArg Prod.fst eJ54).trans rfl)), rfl, rfl⟩
            · have hd64 := mnone1 nr59 c60
              obtain ⟨ty65, tm66, td67, tq1ty65, tq2ty65, tq3ty65, tq4ty65, tq5ty65, tq6ty65, rfl, tetm66, tetd67⟩ := hd64
              have tdmtd67 := dm_b ty65 tm66
              refine r_aload_n hX dX4_date_71 rfl rfl ?_
              refine r_iload_n hX dX4_date_72 rfl rfl ?_
              refine r_iload_n hX dX4_date_73 rfl rfl ?_
              refine r_iload_n hX dX4_date_74 rfl rfl ?_
              refine r_bipush (v := 100) hX dX4_date_75 (by decide) ?_
              refine r_idiv hX dX4_date_77 (by first | decide | assumption) ?_
              refine r_iload_n hX dX4_date_78 rfl rfl ?_
              refine r_bipush (v := 100) hX dX4_date_79 (by decide) ?_
              refine r_irem hX dX4_date_81 (by first | decide | assumption) ?_
              rw [tetd67, tetm66]
              refine r_callS hX (c_X4_dayOf _ _ ty65 (by omega) (by omega) tm66 (by omega) (by omega) td67 (by omega)) ks_X4_163 rfl rfl (Nat.le_of_ble_eq_true rfl) ⟨(Nat.le_of_ble_eq_true rfl), (Nat.le_of_ble_eq_true rfl)⟩ ⟨(Nat.le_of_ble_eq_true rfl), (Nat.le_of_ble_eq_true rfl)⟩ dX4_date_82 (fun _ _ z => False.elim z) (fun v9 ws9 h68 => ?_)
              obtain ⟨rfl, hw9⟩ := h68
              subst ws9
              dsimp only [mPush]
              have hdi70 := day_in (y := ty65) (m := tm66) (d := td67) (by omega) (by omega) (by omega) (by omega) (by omega) (by omega)
              refine r_iload hX dX4_date_85 rfl ?_
              refine r_iload hX dX4_date_87 rfl ?_
              refine r_aload_n hX dX4_date_89 rfl rfl ?_
              refine r_get hX kf_X4_7 14 rfl rfl dX4_date_90 ?_
              refine r_iload hX dX4_date_93 rfl ?_
              refine r_iald hX 15 0 rfl rfl (vp_in_nI hhi36 (by decide)) dX4_date_95 ?_
              refine r_callV hX (c_X4_put _ _ _ _ J54 _ (mWF2 eJ54 hJ) i31 (Nat.lt_of_lt_of_le hhi31 (by decide)) _ _ _ _ ⟨_, rfl, hdi70.1, hdi70.2⟩) kv_X4_139 14 rfl rfl rfl rfl (Nat.le_of_ble_eq_true rfl) ⟨(Nat.le_of_ble_eq_true rfl), (Nat.le_of_ble_eq_true rfl)⟩ ⟨(Nat.le_of_ble_eq_true rfl), (Nat.le_of_ble_eq_true rfl)⟩ dX4_date_96 (fun _ _ z => False.elim z) (fun v9 ws9 h71 => ?_)
              obtain ⟨r73, J74, hJ74, oJ74, rfl, hw9⟩ := h71
              subst ws9
              dsimp only [mPush]
              refine r_goto (tgt := 106) hX dX4_date_99 (by decide) ?_
              exact r_iret hX hE dX4_date_106 (Nat.le_of_ble_eq_true rfl) (Nat.le_of_ble_eq_true rfl) ⟨_, J74, hJ74, (oJ74.trans ((congrArg Prod.fst eJ54).trans rfl)), rfl, rfl⟩
          · refine r_iconst (v := 0) hX dX4_date_54 (by decide) ?_
            exact r_iret hX hE dX4_date_55 (Nat.le_of_ble_eq_true rfl) (Nat.le_of_ble_eq_true rfl) ⟨_, J54, (mWF2 eJ54 hJ), ((congrArg Prod.fst eJ54).trans rfl), rfl, rfl⟩
        · refine r_iconst (v := 1) hX dX4_date_43 (by decide) ?_
          refine r_goto (tgt := 48) hX dX4_date_44 (by decide) ?_
          refine r_callV hX (c_X4_isStopped _ _ _ _ _ _ _ _) kv_X4_68 14 rfl rfl rfl rfl (Nat.le_of_ble_eq_true rfl) ⟨(Nat.le_of_ble_eq_true rfl), (Nat.le_of_ble_eq_true rfl)⟩ ⟨(Nat.le_of_ble_eq_true rfl), (Nat.le_of_ble_eq_true rfl)⟩ dX4_date_48 (fun _ _ z => False.elim z) (fun v9 ws9 h75 => ?_)
          obtain ⟨r77, J78, nr77, etJ78, erJ78, eJ78, rfl, hw9⟩ := h75
          subst ws9
          dsimp only [mPush]
          refine r_if_eq (tgt := 56) hX dX4_date_51 (by decide) (fun c79 => ?_) (fun c79 => ?_)
          · have hs80 := mnone0 nr77 (by first | exact c79 | exact Classical.not_not.mp c79)
            exact absurd hs80.2 (by decide)
          · refine r_iconst (v := 0) hX dX4_date_54 (by decide) ?_
            exact r_iret hX hE dX4_date_55 (Nat.le_of_ble_eq_true rfl) (Nat.le_of_ble_eq_true rfl) ⟨_, J78, (mWF2 eJ78 hJ), ((congrArg Prod.fst eJ78).trans rfl), rfl, rfl⟩
    · refine r_iconst (v := 1) hX dX4_date_16 (by decide) ?_
      refine r_goto (tgt := 21) hX dX4_date_17 (by decide) ?_
      refine r_iload_n hX dX4_date_21 rfl rfl ?_
      refine r_i2l hX dX4_date_22 ?_
      refine r_lconst (v := 0) hX dX4_date_23 (by decide) ?_
      refine r_ldc2 hX kc_X4_153 dX4_date_24 ?_
      refine r_callS hX (c_X4_isIn _ _ _ _ _) ks_X4_38 rfl rfl (Nat.le_of_ble_eq_true rfl) ⟨(Nat.le_of_ble_eq_true rfl), (Nat.le_of_ble_eq_true rfl)⟩ ⟨(Nat.le_of_ble_eq_true rfl), (Nat.le_of_ble_eq_true rfl)⟩ dX4_date_27 (fun _ _ z => False.elim z) (fun v9 ws9 h81 => ?_)
      obtain ⟨rfl, hw9⟩ := h81
      subst ws9
      dsimp only [mPush]
      refine r_if_eq (tgt := 43) hX dX4_date_30 (by decide) (fun c83 => ?_) (fun c83 => ?_)
      · refine r_iconst (v := 1) hX dX4_date_43 (by decide) ?_
        refine r_goto (tgt := 48) hX dX4_date_44 (by decide) ?_
        refine r_callV hX (c_X4_isStopped _ _ _ _ _ _ _ _) kv_X4_68 14 rfl rfl rfl rfl (Nat.le_of_ble_eq_true rfl) ⟨(Nat.le_of_ble_eq_true rfl), (Nat.le_of_ble_eq_true rfl)⟩ ⟨(Nat.le_of_ble_eq_true rfl), (Nat.le_of_ble_eq_true rfl)⟩ dX4_date_48 (fun _ _ z => False.elim z) (fun v9 ws9 h84 => ?_)
        obtain ⟨r86, J87, nr86, etJ87, erJ87, eJ87, rfl, hw9⟩ := h84
        subst ws9
        dsimp only [mPush]
        refine r_if_eq (tgt := 56) hX dX4_date_51 (by decide) (fun c88 => ?_) (fun c88 => ?_)
        · have hs89 := mnone0 nr86 (by first | exact c88 | exact Classical.not_not.mp c88)
          exact absurd hs89.1 (by decide)
        · refine r_iconst (v := 0) hX dX4_date_54 (by decide) ?_
          exact r_iret hX hE dX4_date_55 (Nat.le_of_ble_eq_true rfl) (Nat.le_of_ble_eq_true rfl) ⟨_, J87, (mWF2 eJ87 hJ), ((congrArg Prod.fst eJ87).trans rfl), rfl, rfl⟩
      · obtain ⟨i90, li90, hhi90, rfl⟩ := fwin 0 9999 (by decide) (by decide) (by decide) (by decide) c83
        refine r_iload hX dX4_date_33 rfl ?_
        refine r_iload hX dX4_date_35 rfl ?_
        refine r_callS hX (c_X4_isTime _ _ _ _) ks_X4_155 rfl rfl (Nat.le_of_ble_eq_true rfl) ⟨(Nat.le_of_ble_eq_true rfl), (Nat.le_of_ble_eq_true rfl)⟩ ⟨(Nat.le_of_ble_eq_true rfl), (Nat.le_of_ble_eq_true rfl)⟩ dX4_date_37 (fun _ _ z => False.elim z) (fun v9 ws9 h91 => ?_)
        obtain ⟨r93, br93, rfl, hw9⟩ := h91
        subst ws9
        dsimp only [mPush]
        refine r_if_ne (tgt := 47) hX dX4_date_40 (by decide) (fun c94 => ?_) (fun c94 => ?_)
        · refine r_iconst (v := 0) hX dX4_date_47 (by decide) ?_
          refine r_callV hX (c_X4_isStopped _ _ _ _ _ _ _ _) kv_X4_68 14 rfl rfl rfl rfl (Nat.le_of_ble_eq_true rfl) ⟨(Nat.le_of_ble_eq_true rfl), (Nat.le_of_ble_eq_true rfl)⟩ ⟨(Nat.le_of_ble_eq_true rfl), (Nat.le_of_ble_eq_true rfl)⟩ dX4_date_48 (fun _ _ z => False.elim z) (fun v9 ws9 h95 => ?_)
          obtain ⟨r97, J98, nr97, etJ98, erJ98, eJ98, rfl, hw9⟩ := h95
          subst ws9
          dsimp only [mPush]
          refine r_if_eq (tgt := 56) hX dX4_date_51 (by decide) (fun c99 => ?_) (fun c99 => ?_)
          · have hs100 := mnone0 nr97 (by first | exact c99 | exact Classical.not_not.mp c99)
            exact absurd hs100.1 (by decide)
          · refine r_iconst (v := 0) hX dX4_date_54 (by decide) ?_
            exact r_iret hX hE dX4_date_55 (Nat.le_of_ble_eq_true rfl) (Nat.le_of_ble_eq_true rfl) ⟨_, J98, (mWF2 eJ98 hJ), ((congrArg Prod.fst eJ98).trans rfl), rfl, rfl⟩
        · refine r_iconst (v := 1) hX dX4_date_43 (by decide) ?_
          refine r_goto (tgt := 48) hX dX4_date_44 (by decide) ?_
          refine r_callV hX (c_X4_isStopped _ _ _ _ _ _ _ _) kv_X4_68 14 rfl rfl rfl rfl (Nat.le_of_ble_eq_true rfl) ⟨(Nat.le_of_ble_eq_true rfl), (Nat.le_of_ble_eq_true rfl)⟩ ⟨(Nat.le_of_ble_eq_true rfl), (Nat.le_of_ble_eq_true rfl)⟩ dX4_date_48 (fun _ _ z => False.elim z) (fun v9 ws9 h101 => ?_)
          obtain ⟨r103, J104, nr103, etJ104, erJ104, eJ104, rfl, hw9⟩ := h101
          subst ws9
          dsimp only [mPush]
          refine r_if_eq (tgt := 56) hX dX4_date_51 (by decide) (fun c105 => ?_) (fun c105 => ?_)
          · have hs106 := mnone0 nr103 (by first | exact c105 | exact Classical.not_not.mp c105)
            exact absurd hs106.1 (by decide)
          · refine r_iconst (v := 0) hX dX4_date_54 (by decide) ?_
            exact r_iret hX hE dX4_date_55 (Nat.le_of_ble_eq_true rfl) (Nat.le_of_ble_eq_true rfl) ⟨_, J104, (mWF2 eJ104 hJ), ((congrArg Prod.fst eJ104).trans rfl), rfl, rfl⟩
theorem dX4_set_0 : decode cX4_set 0 = .ok (.aload_n 0, 1) := by decide +kernel
theorem dX4_set_1 : decode cX4_set 1 = .ok (.iload_n 1, 1) := by decide +kernel
theorem dX4_set_2 : decode cX4_set 2 = .ok (.invokestatic 61, 3) := by decide +kernel
theorem dX4_set_5 : decode cX4_set 5 = .ok (.iload_n 2, 1) := by decide +kernel
theorem dX4_set_6 : decode cX4_set 6 = .ok (.i2l, 1) := by decide +kernel
theorem dX4_set_7 : decode cX4_set 7 = .ok (.lconst 0, 1) := by decide +kernel
theorem dX4_set_8 : decode cX4_set 8 = .ok (.ldc2_w 183, 3) := by decide +kernel
theorem dX4_set_11 : decode cX4_set 11 = .ok (.invokestatic 38, 3) := by decide +kernel
theorem dX4_set_14 : decode cX4_set 14 = .ok (.ifCond .ne 7, 3) := by decide +kernel
theorem dX4_set_17 : decode cX4_set 17 = .ok (.iconst 1, 1) := by decide +kernel
theorem dX4_set_18 : decode cX4_set 18 = .ok (.goto 4, 3) := by decide +kernel
theorem dX4_set_21 : decode cX4_set 21 = .ok (.iconst 0, 1) := by decide +kernel
theorem dX4_set_22 : decode cX4_set 22 = .ok (.invokevirtual 68, 3) := by decide +kernel
theorem dX4_set_25 : decode cX4_set 25 = .ok (.ifCond .eq 5, 3) := by decide +kernel
theorem dX4_set_28 : decode cX4_set 28 = .ok (.iconst 0, 1) := by decide +kernel
theorem dX4_set_29 : decode cX4_set 29 = .ok (.ireturn, 1) := by decide +kernel
theorem dX4_set_30 : decode cX4_set 30 = .ok (.aload_n 0, 1) := by decide +kernel
theorem dX4_set_31 : decode cX4_set 31 = .ok (.getfield 17, 3) := by decide +kernel
theorem dX4_set_34 : decode cX4_set 34 = .ok (.iload_n 1, 1) := by decide +kernel
theorem dX4_set_35 : decode cX4_set 35 = .ok (.iaload, 1) := by decide +kernel
theorem dX4_set_36 : decode cX4_set 36 = .ok (.invokestatic 170, 3) := by decide +kernel
theorem dX4_set_39 : decode cX4_set 39 = .ok (.astore 4, 2) := by decide +kernel
theorem dX4_set_41 : decode cX4_set 41 = .ok (.aload_n 0, 1) := by decide +kernel
theorem dX4_set_42 : decode cX4_set 42 = .ok (.getfield 20, 3) := by decide +kernel
theorem dX4_set_45 : decode cX4_set 45 = .ok (.iload_n 1, 1) := by decide +kernel
theorem dX4_set_46 : decode cX4_set 46 = .ok (.iaload, 1) := by decide +kernel
theorem dX4_set_47 : decode cX4_set 47 = .ok (.istore 5, 2) := by decide +kernel
theorem dX4_set_49 : decode cX4_set 49 = .ok (.iload_n 2, 1) := by decide +kernel
theorem dX4_set_50 : decode cX4_set 50 = .ok (.tableswitch 367 0 6 #[42, 78, 112, 149, 195, 250, 314], 42) := by decide +kernel
theorem dX4_set_92 : decode cX4_set 92 = .ok (.iload_n 3, 1) := by decide +kernel
theorem dX4_set_93 : decode cX4_set 93 = .ok (.i2l, 1) := by decide +kernel
theorem dX4_set_94 : decode cX4_set 94 = .ok (.ldc2_w 147, 3) := by decide +kernel
theorem dX4_set_97 : decode cX4_set 97 = .ok (.ldc2_w 149, 3) := by decide +kernel
theorem dX4_set_100 : decode cX4_set 100 = .ok (.invokestatic 38, 3) := by decide +kernel
theorem dX4_set_103 : decode cX4_set 103 = .ok (.ifCond .eq 20, 3) := by decide +kernel
theorem dX4_set_106 : decode cX4_set 106 = .ok (.aload_n 0, 1) := by decide +kernel
theorem dX4_set_107 : decode cX4_set 107 = .ok (.iload_n 1, 1) := by decide +kernel
theorem dX4_set_108 : decode cX4_set 108 = .ok (.iload_n 3, 1) := by decide +kernel
theorem dX4_set_109 : decode cX4_set 109 = .ok (.aload 4, 2) := by decide +kernel
theorem dX4_set_111 : decode cX4_set 111 = .ok (.iconst 1, 1) := by decide +kernel
theorem dX4_set_112 : decode cX4_set 112 = .ok (.iaload, 1) := by decide +kernel
theorem dX4_set_113 : decode cX4_set 113 = .ok (.aload 4, 2) := by decide +kernel
theorem dX4_set_115 : decode cX4_set 115 = .ok (.iconst 2, 1) := by decide +kernel
theorem dX4_set_116 : decode cX4_set 116 = .ok (.iaload, 1) := by decide +kernel
theorem dX4_set_117 : decode cX4_set 117 = .ok (.invokevirtual 174, 3) := by decide +kernel
theorem dX4_set_120 : decode cX4_set 120 = .ok (.goto 7, 3) := by decide +kernel
theorem dX4_set_123 : decode cX4_set 123 = .ok (.aload_n 0, 1) := by decide +kernel
theorem dX4_set_124 : decode cX4_set 124 = .ok (.invokevirtual 80, 3) := by decide +kernel
theorem dX4_set_127 : decode cX4_set 127 = .ok (.ireturn, 1) := by decide +kernel
theorem dX4_set_128 : decode cX4_set 128 = .ok (.iload_n 3, 1) := by decide +kernel
theorem dX4_set_129 : decode cX4_set 129 = .ok (.i2l, 1) := by decide +kernel
theorem dX4_set_130 : decode cX4_set 130 = .ok (.lconst 1, 1) := by decide +kernel
theorem dX4_set_131 : decode cX4_set 131 = .ok (.ldc2_w 151, 3) := by decide +kernel
theorem dX4_set_134 : decode cX4_set 134 = .ok (.invokestatic 38, 3) := by decide +kernel
theorem dX4_set_137 : decode cX4_set 137 = .ok (.ifCond .eq 20, 3) := by decide +kernel
theorem dX4_set_140 : decode cX4_set 140 = .ok (.aload_n 0, 1) := by decide +kernel
theorem dX4_set_141 : decode cX4_set 141 = .ok (.iload_n 1, 1) := by decide +kernel
theorem dX4_set_142 : decode cX4_set 142 = .ok (.aload 4, 2) := by decide +kernel
theorem dX4_set_144 : decode cX4_set 144 = .ok (.iconst 0, 1) := by decide +kernel
theorem dX4_set_145 : decode cX4_set 145 = .ok (.iaload, 1) := by decide +kernel
theorem dX4_set_146 : decode cX4_set 146 = .ok (.iload_n 3, 1) := by decide +kernel
theorem dX4_set_147 : decode cX4_set 147 = .ok (.aload 4, 2) := by decide +kernel
theorem dX4_set_149 : decode cX4_set 149 = .ok (.iconst 2, 1) := by decide +kernel
theorem dX4_set_150 : decode cX4_set 150 = .ok (.iaload, 1) := by decide +kernel
theorem dX4_set_151 : decode cX4_set 151 = .ok (.invokevirtual 174, 3) := by decide +kernel
theorem dX4_set_154 : decode cX4_set 154 = .ok (.goto 7, 3) := by decide +kernel
theorem dX4_set_157 : decode cX4_set 157 = .ok (.aload_n 0, 1) := by decide +kernel
theorem dX4_set_158 : decode cX4_set 158 = .ok (.invokevirtual 80, 3) := by decide +kernel
theorem dX4_set_161 : decode cX4_set 161 = .ok (.ireturn, 1) := by decide +kernel
theorem dX4_set_162 : decode cX4_set 162 = .ok (.aload 4, 2) := by decide +kernel
theorem dX4_set_164 : decode cX4_set 164 = .ok (.iconst 0, 1) := by decide +kernel
theorem dX4_set_165 : decode cX4_set 165 = .ok (.iaload, 1) := by decide +kernel
theorem dX4_set_166 : decode cX4_set 166 = .ok (.aload 4, 2) := by decide +kernel
theorem dX4_set_168 : decode cX4_set 168 = .ok (.iconst 1, 1) := by decide +kernel
theorem dX4_set_169 : decode cX4_set 169 = .ok (.iaload, 1) := by decide +kernel
theorem dX4_set_170 : decode cX4_set 170 = .ok (.iload_n 3, 1) := by decide +kernel
theorem dX4_set_171 : decode cX4_set 171 = .ok (.invokestatic 159, 3) := by decide +kernel
theorem dX4_set_174 : decode cX4_set 174 = .ok (.ifCond .eq 20, 3) := by decide +kernel
theorem dX4_set_177 : decode cX4_set 177 = .ok (.aload_n 0, 1) := by decide +kernel
theorem dX4_set_178 : decode cX4_set 178 = .ok (.iload_n 1, 1) := by decide +kernel
theorem dX4_set_179 : decode cX4_set 179 = .ok (.aload 4, 2) := by decide +kernel
theorem dX4_set_181 : decode cX4_set 181 = .ok (.iconst 0, 1) := by decide +kernel
theorem dX4_set_182 : decode cX4_set 182 = .ok (.iaload, 1) := by decide +kernel
theorem dX4_set_183 : decode cX4_set 183 = .ok (.aload 4, 2) := by decide +kernel
theorem dX4_set_185 : decode cX4_set 185 = .ok (.iconst 1, 1) := by decide +kernel
theorem dX4_set_186 : decode cX4_set 186 = .ok (.iaload, 1) := by decide +kernel
theorem dX4_set_187 : decode cX4_set 187 = .ok (.iload_n 3, 1) := by decide +kernel
theorem dX4_set_188 : decode cX4_set 188 = .ok (.invokevirtual 174, 3) := by decide +kernel
theorem dX4_set_191 : decode cX4_set 191 = .ok (.goto 7, 3) := by decide +kernel
theorem dX4_set_194 : decode cX4_set 194 = .ok (.aload_n 0, 1) := by decide +kernel
theorem dX4_set_195 : decode cX4_set 195 = .ok (.invokevirtual 80, 3) := by decide +kernel
theorem dX4_set_198 : decode cX4_set 198 = .ok (.ireturn, 1) := by decide +kernel
theorem dX4_set_199 : decode cX4_set 199 = .ok (.iload_n 3, 1) := by decide +kernel
theorem dX4_set_200 : decode cX4_set 200 = .ok (.i2l, 1) := by decide +kernel
theorem dX4_set_201 : decode cX4_set 201 = .ok (.lconst 1, 1) := by decide +kernel
theorem dX4_set_202 : decode cX4_set 202 = .ok (.aload 4, 2) := by decide +kernel
theorem dX4_set_204 : decode cX4_set 204 = .ok (.iconst 0, 1) := by decide +kernel
theorem dX4_set_205 : decode cX4_set 205 = .ok (.iaload, 1) := by decide +kernel
theorem dX4_set_206 : decode cX4_set 206 = .ok (.invokestatic 48, 3) := by decide +kernel
theorem dX4_set_209 : decode cX4_set 209 = .ok (.i2l, 1) := by decide +kernel
theorem dX4_set_210 : decode cX4_set 210 = .ok (.invokestatic 38, 3) := by decide +kernel
theorem dX4_set_213 : decode cX4_set 213 = .ok (.ifCond .ne 8, 3) := by decide +kernel
theorem dX4_set_216 : decode cX4_set 216 = .ok (.aload_n 0, 1) := by decide +kernel
theorem dX4_set_217 : decode cX4_set 217 = .ok (.invokevirtual 80, 3) := by decide +kernel
theorem dX4_set_220 : decode cX4_set 220 = .ok (.ireturn, 1) := by decide +kernel
theorem dX4_set_221 : decode cX4_set 221 = .ok (.aload_n 0, 1) := by decide +kernel
theorem dX4_set_222 : decode cX4_set 222 = .ok (.getfield 17, 3) := by decide +kernel
theorem dX4_set_225 : decode cX4_set 225 = .ok (.iload_n 1, 1) := by decide +kernel
theorem dX4_set_226 : decode cX4_set 226 = .ok (.aload 4, 2) := by decide +kernel
theorem dX4_set_228 : decode cX4_set 228 = .ok (.iconst 0, 1) := by decide +kernel
theorem dX4_set_229 : decode cX4_set 229 = .ok (.iaload, 1) := by decide +kernel
theorem dX4_set_230 : decode cX4_set 230 = .ok (.invokestatic 52, 3) := by decide +kernel
theorem dX4_set_233 : decode cX4_set 233 = .ok (.iload_n 3, 1) := by decide +kernel
theorem dX4_set_234 : decode cX4_set 234 = .ok (.iadd, 1) := by decide +kernel
theorem dX4_set_235 : decode cX4_set 235 = .ok (.iconst 1, 1) := by decide +kernel
theorem dX4_set_236 : decode cX4_set 236 = .ok (.isub, 1) := by decide +kernel
theorem dX4_set_237 : decode cX4_set 237 = .ok (.iastore, 1) := by decide +kernel
theorem dX4_set_238 : decode cX4_set 238 = .ok (.aload_n 0, 1) := by decide +kernel
theorem dX4_set_239 : decode cX4_set 239 = .ok (.getfield 17, 3) := by decide +kernel
theorem dX4_set_242 : decode cX4_set 242 = .ok (.iload_n 1, 1) := by decide +kernel
theorem dX4_set_243 : decode cX4_set 243 = .ok (.iaload, 1) := by decide +kernel
theorem dX4_set_244 : decode cX4_set 244 = .ok (.ireturn, 1) := by decide +kernel
theorem dX4_set_245 : decode cX4_set 245 = .ok (.iload_n 3, 1) := by decide +kernel
theorem dX4_set_246 : decode cX4_set 246 = .ok (.i2l, 1) := by decide +kernel
theorem dX4_set_247 : decode cX4_set 247 = .ok (.lconst 0, 1) := by decide +kernel
theorem dX4_set_248 : decode cX4_set 248 = .ok (.ldc2_w 191, 3) := by decide +kernel
theorem dX4_set_251 : decode cX4_set 251 = .ok (.invokestatic 38, 3) := by decide +kernel
theorem dX4_set_254 : decode cX4_set 254 = .ok (.ifCond .eq 41, 3) := by decide +kernel
theorem dX4_set_257 : decode cX4_set 257 = .ok (.aload_n 0, 1) := by decide +kernel
theorem dX4_set_258 : decode cX4_set 258 = .ok (.iload_n 1, 1) := by decide +kernel
theorem dX4_set_259 : decode cX4_set 259 = .ok (.aload_n 0, 1) := by decide +kernel
theorem dX4_set_260 : decode cX4_set 260 = .ok (.getfield 17, 3) := by decide +kernel
theorem dX4_set_263 : decode cX4_set 263 = .ok (.iload_n 1, 1) := by decide +kernel
theorem dX4_set_264 : decode cX4_set 264 = .ok (.iaload, 1) := by decide +kernel
theorem dX4_set_265 : decode cX4_set 265 = .ok (.sipush 3600, 3) := by decide +kernel
theorem dX4_set_268 : decode cX4_set 268 = .ok (.iload_n 3, 1) := by decide +kernel
theorem dX4_set_269 : decode cX4_set 269 = .ok (.imul, 1) := by decide +kernel
theorem dX4_set_270 : decode cX4_set 270 = .ok (.iload 5, 2) := by decide +kernel
theorem dX4_set_272 : decode cX4_set 272 = .ok (.sipush 3600, 3) := by decide +kernel
theorem dX4_set_275 : decode cX4_set 275 = .ok (.irem, 1) := by decide +kernel
theorem dX4_set_276 : decode cX4_set 276 = .ok (.iadd, 1) := by decide +kernel
theorem dX4_set_277 : decode cX4_set 277 = .ok (.aload_n 0, 1) := by decide +kernel
theorem dX4_set_278 : decode cX4_set 278 = .ok (.getfield 23, 3) := by decide +kernel
theorem dX4_set_281 : decode cX4_set 281 = .ok (.iload_n 1, 1) := by decide +kernel
theorem dX4_set_282 : decode cX4_set 282 = .ok (.iaload, 1) := by decide +kernel
theorem dX4_set_283 : decode cX4_set 283 = .ok (.aload_n 0, 1) := by decide +kernel
theorem dX4_set_284 : decode cX4_set 284 = .ok (.getfield 26, 3) := by decide +kernel
theorem dX4_set_287 : decode cX4_set 287 = .ok (.iload_n 1, 1) := by decide +kernel
theorem dX4_set_288 : decode cX4_set 288 = .ok (.iaload, 1) := by decide +kernel
theorem dX4_set_289 : decode cX4_set 289 = .ok (.invokevirtual 139, 3) := by decide +kernel
theorem dX4_set_292 : decode cX4_set 292 = .ok (.goto 7, 3) := by decide +kernel
theorem dX4_set_295 : decode cX4_set 295 = .ok (.aload_n 0, 1) := by decide +kernel
theorem dX4_set_296 : decode cX4_set 296 = .ok (.invokevirtual 80, 3) := by decide +kernel
theorem dX4_set_299 : decode cX4_set 299 = .ok (.ireturn, 1) := by decide +kernel
theorem dX4_set_300 : decode cX4_set 300 = .ok (.iload_n 3, 1) := by decide +kernel
theorem dX4_set_301 : decode cX4_set 301 = .ok (.i2l, 1) := by decide +kernel
theorem dX4_set_302 : decode cX4_set 302 = .ok (.lconst 0, 1) := by decide +kernel
theorem dX4_set_303 : decode cX4_set 303 = .ok (.ldc2_w 78, 3) := by decide +kernel
theorem dX4_set_306 : decode cX4_set 306 = .ok (.invokestatic 38, 3) := by decide +kernel
theorem dX4_set_309 : decode cX4_set 309 = .ok (.ifCond .eq 50, 3) := by decide +kernel
theorem dX4_set_312 : decode cX4_set 312 = .ok (.aload_n 0, 1) := by decide +kernel
theorem dX4_set_313 : decode cX4_set 313 = .ok (.iload_n 1, 1) := by decide +kernel
theorem dX4_set_314 : decode cX4_set 314 = .ok (.aload_n 0, 1) := by decide +kernel
theorem dX4_set_315 : decode cX4_set 315 = .ok (.getfield 17, 3) := by decide +kernel
theorem dX4_set_318 : decode cX4_set 318 = .ok (.iload_n 1, 1) := by decide +kernel
theorem dX4_set_319 : decode cX4_set 319 = .ok (.iaload, 1) := by decide +kernel
theorem dX4_set_320 : decode cX4_set 320 = .ok (.iload 5, 2) := by decide +kernel
theorem dX4_set_322 : decode cX4_set 322 = .ok (.sipush 3600, 3) := by decide +kernel
theorem dX4_set_325 : decode cX4_set 325 = .ok (.idiv, 1) := by decide +kernel
theorem dX4_set_326 : decode cX4_set 326 = .ok (.sipush 3600, 3) := by decide +kernel
theorem dX4_set_329 : decode cX4_set 329 = .ok (.imul, 1) := by decide +kernel
theorem dX4_set_330 : decode cX4_set 330 = .ok (.bipush 60, 2) := by decide +kernel
theorem dX4_set_332 : decode cX4_set 332 = .ok (.iload_n 3, 1) := by decide +kernel
theorem dX4_set_333 : decode cX4_set 333 = .ok (.imul, 1) := by decide +kernel
theorem dX4_set_334 : decode cX4_set 334 = .ok (.iadd, 1) := by decide +kernel
theorem dX4_set_335 : decode cX4_set 335 = .ok (.iload 5, 2) := by decide +kernel
theorem dX4_set_337 : decode cX4_set 337 = .ok (.bipush 60, 2) := by decide +kernel
theorem dX4_set_339 : decode cX4_set 339 = .ok (.irem, 1) := by decide +kernel
theorem dX4_set_340 : decode cX4_set 340 = .ok (.iadd, 1) := by decide +kernel
theorem dX4_set_341 : decode cX4_set 341 = .ok (.aload_n 0, 1) := by decide +kernel
theorem dX4_set_342 : decode cX4_set 342 = .ok (.getfield 23, 3) := by decide +kernel
theorem dX4_set_345 : decode cX4_set 345 = .ok (.iload_n 1, 1) := by decide +kernel
theorem dX4_set_346 : decode cX4_set 346 = .ok (.iaload, 1) := by decide +kernel
theorem dX4_set_347 : decode cX4_set 347 = .ok (.aload_n 0, 1) := by decide +kernel
theorem dX4_set_348 : decode cX4_set 348 = .ok (.getfield 26, 3) := by decide +kernel
theorem dX4_set_351 : decode cX4_set 351 = .ok (.iload_n 1, 1) := by decide +kernel
theorem dX4_set_352 : decode cX4_set 352 = .ok (.iaload, 1) := by decide +kernel
theorem dX4_set_353 : decode cX4_set 353 = .ok (.invokevirtual 139, 3) := by decide +kernel
theorem dX4_set_356 : decode cX4_set 356 = .ok (.goto 7, 3) := by decide +kernel
theorem dX4_set_359 : decode cX4_set 359 = .ok (.aload_n 0, 1) := by decide +kernel
theorem dX4_set_360 : decode cX4_set 360 = .ok (.invokevirtual 80, 3) := by decide +kernel
theorem dX4_set_363 : decode cX4_set 363 = .ok (.ireturn, 1) := by decide +kernel
theorem dX4_set_364 : decode cX4_set 364 = .ok (.iload_n 3, 1) := by decide +kernel
theorem dX4_set_365 : decode cX4_set 365 = .ok (.i2l, 1) := by decide +kernel
theorem dX4_set_366 : decode cX4_set 366 = .ok (.lconst 0, 1) := by decide +kernel
theorem dX4_set_367 : decode cX4_set 367 = .ok (.ldc2_w 78, 3) := by decide +kernel
theorem dX4_set_370 : decode cX4_set 370 = .ok (.invokestatic 38, 3) := by decide +kernel
theorem dX4_set_373 : decode cX4_set 373 = .ok (.ifCond .eq 39, 3) := by decide +kernel
theorem dX4_set_376 : decode cX4_set 376 = .ok (.aload_n 0, 1) := by decide +kernel
theorem dX4_set_377 : decode cX4_set 377 = .ok (.iload_n 1, 1) := by decide +kernel
theorem dX4_set_378 : decode cX4_set 378 = .ok (.aload_n 0, 1) := by decide +kernel
theorem dX4_set_379 : decode cX4_set 379 = .ok (.getfield 17, 3) := by decide +kernel
theorem dX4_set_382 : decode cX4_set 382 = .ok (.iload_n 1, 1) := by decide +kernel
theorem dX4_set_383 : decode cX4_set 383 = .ok (.iaload, 1) := by decide +kernel
theorem dX4_set_384 : decode cX4_set 384 = .ok (.iload 5, 2) := by decide +kernel
theorem dX4_set_386 : decode cX4_set 386 = .ok (.bipush 60, 2) := by decide +kernel
theorem dX4_set_388 : decode cX4_set 388 = .ok (.idiv, 1) := by decide +kernel
theorem dX4_set_389 : decode cX4_set 389 = .ok (.bipush 60, 2) := by decide +kernel
theorem dX4_set_391 : decode cX4_set 391 = .ok (.imul, 1) := by decide +kernel
theorem dX4_set_392 : decode cX4_set 392 = .ok (.iload_n 3, 1) := by decide +kernel
theorem dX4_set_393 : decode cX4_set 393 = .ok (.iadd, 1) := by decide +kernel
theorem dX4_set_394 : decode cX4_set 394 = .ok (.aload_n 0, 1) := by decide +kernel
theorem dX4_set_395 : decode cX4_set 395 = .ok (.getfield 23, 3) := by decide +kernel
theorem dX4_set_398 : decode cX4_set 398 = .ok (.iload_n 1, 1) := by decide +kernel
theorem dX4_set_399 : decode cX4_set 399 = .ok (.iaload, 1) := by decide +kernel
theorem dX4_set_400 : decode cX4_set 400 = .ok (.aload_n 0, 1) := by decide +kernel
theorem dX4_set_401 : decode cX4_set 401 = .ok (.getfield 26, 3) := by decide +kernel
theorem dX4_set_404 : decode cX4_set 404 = .ok (.iload_n 1, 1) := by decide +kernel
theorem dX4_set_405 : decode cX4_set 405 = .ok (.iaload, 1) := by decide +kernel
theorem dX4_set_406 : decode cX4_set 406 = .ok (.invokevirtual 139, 3) := by decide +kernel
theorem dX4_set_409 : decode cX4_set 409 = .ok (.goto 7, 3) := by decide +kernel
theorem dX4_set_412 : decode cX4_set 412 = .ok (.aload_n 0, 1) := by decide +kernel
theorem dX4_set_413 : decode cX4_set 413 = .ok (.invokevirtual 80, 3) := by decide +kernel
theorem dX4_set_416 : decode cX4_set 416 = .ok (.ireturn, 1) := by decide +kernel
theorem dX4_set_417 : decode cX4_set 417 = .ok (.iload_n 3, 1) := by decide +kernel
theorem dX4_set_418 : decode cX4_set 418 = .ok (.i2l, 1) := by decide +kernel
theorem dX4_set_419 : decode cX4_set 419 = .ok (.lconst 0, 1) := by decide +kernel
theorem dX4_set_420 : decode cX4_set 420 = .ok (.ldc2_w 145, 3) := by decide +kernel
theorem dX4_set_423 : decode cX4_set 423 = .ok (.invokestatic 38, 3) := by decide +kernel
theorem dX4_set_426 : decode cX4_set 426 = .ok (.ifCond .eq 26, 3) := by decide +kernel
theorem dX4_set_429 : decode cX4_set 429 = .ok (.aload_n 0, 1) := by decide +kernel
theorem dX4_set_430 : decode cX4_set 430 = .ok (.iload_n 1, 1) := by decide +kernel
theorem dX4_set_431 : decode cX4_set 431 = .ok (.aload_n 0, 1) := by decide +kernel
theorem dX4_set_432 : decode cX4_set 432 = .ok (.getfield 17, 3) := by decide +kernel
theorem dX4_set_435 : decode cX4_set 435 = .ok (.iload_n 1, 1) := by decide +kernel
theorem dX4_set_436 : decode cX4_set 436 = .ok (.iaload, 1) := by decide +kernel
theorem dX4_set_437 : decode cX4_set 437 = .ok (.iload 5, 2) := by decide +kernel
theorem dX4_set_439 : decode cX4_set 439 = .ok (.iload_n 3, 1) := by decide +kernel
theorem dX4_set_440 : decode cX4_set 440 = .ok (.aload_n 0, 1) := by decide +kernel
theorem dX4_set_441 : decode cX4_set 441 = .ok (.getfield 26, 3) := by decide +kernel
theorem dX4_set_444 : decode cX4_set 444 = .ok (.iload_n 1, 1) := by decide +kernel
theorem dX4_set_445 : decode cX4_set 445 = .ok (.iaload, 1) := by decide +kernel
theorem dX4_set_446 : decode cX4_set 446 = .ok (.invokevirtual 139, 3) := by decide +kernel
theorem dX4_set_449 : decode cX4_set 449 = .ok (.goto 7, 3) := by decide +kernel
theorem dX4_set_452 : decode cX4_set 452 = .ok (.aload_n 0, 1) := by decide +kernel
theorem dX4_set_453 : decode cX4_set 453 = .ok (.invokevirtual 80, 3) := by decide +kernel
theorem dX4_set_456 : decode cX4_set 456 = .ok (.ireturn, 1) := by decide +kernel
set_option maxHeartbeats 4000000 in
set_option maxRecDepth 20000 in
theorem c_X4_set (ad ae : Nat → Nat) (cs : ClassId × ClassId × ClassId) (K : mK) (J : mJ) (rest : va_W) (hJ : mWF J) (p0 : Int32) (p1 : Int32) (p2 : Int32) : mCt (mTy cs) yX4_set cX4_set 6 (some .int) ⟨5, 1, 4, 119⟩ [.ref (ae 0), .int p0, .int p1, .int p2] (mRw ad ae cs K J rest) (mZi ad ae cs K J rest) mNo := by
  refine mCt.of (by decide +kernel) (Nat.le_of_ble_eq_true rfl) (fun X hX hE => ?_)
  have hX : mOK X RX4 cX4_set 6 ⟨5, 1, 4, 119⟩ [] (mTy cs) := hX
  refine r_aload_n hX dX4_set_0 rfl rfl ?_
  refine r_iload_n hX dX4_set_1 rfl rfl ?_
  refine r_callS hX (c_X4_isNone _ _ _) ks_X4_61 rfl rfl (Nat.le_of_ble_eq_true rfl) ⟨(Nat.le_of_ble_eq_true rfl), (Nat.le_of_ble_eq_true rfl)⟩ ⟨(Nat.le_of_ble_eq_true rfl), (Nat.le_of_ble_eq_true rfl)⟩ dX4_set_2 (fun _ _ z => False.elim z) (fun v9 ws9 h1 => ?_)
  obtain ⟨r3, nr3, rfl, hw9⟩ := h1
  subst ws9
  dsimp only [mPush]
  refine r_iload_n hX dX4_set_5 rfl rfl ?_
  refine r_i2l hX dX4_set_6 ?_
  refine r_lconst (v := 0) hX dX4_set_7 (by decide) ?_
  refine r_ldc2 hX kc_X4_183 dX4_set_8 ?_
  refine r_callS hX (c_X4_isIn _ _ _ _ _) ks_X4_38 rfl rfl (Nat.le_of_ble_eq_true rfl) ⟨(Nat.le_of_ble_eq_true rfl), (Nat.le_of_ble_eq_true rfl)⟩ ⟨(Nat.le_of_ble_eq_true rfl), (Nat.le_of_ble_eq_true rfl)⟩ dX4_set_11 (fun _ _ z => False.elim z) (fun v9 ws9 h4 => ?_)
  obtain ⟨rfl, hw9⟩ := h4
  subst ws9
  dsimp only [mPush]
  refine r_if_ne (tgt := 21) hX dX4_set_14 (by decide) (fun c6 => ?_) (fun c6 => ?_)
  · obtain ⟨i7, li7, hhi7, rfl⟩ := fwin 0 7 (by decide) (by decide) (by decide) (by decide) c6
    refine r_iconst (v := 0) hX dX4_set_21 (by decide) ?_
    refine r_callV hX (c_X4_isStopped _ _ _ _ _ _ _ _) kv_X4_68 14 rfl rfl rfl rfl (Nat.le_of_ble_eq_true rfl) ⟨(Nat.le_of_ble_eq_true rfl), (Nat.le_of_ble_eq_true rfl)⟩ ⟨(Nat.le_of_ble_eq_true rfl), (Nat.le_of_ble_eq_true rfl)⟩ dX4_set_22 (fun _ _ z => False.elim z) (fun v9 ws9 h8 => ?_)
    obtain ⟨r10, J11, nr10, etJ11, erJ11, eJ11, rfl, hw9⟩ := h8
    subst ws9
    dsimp only [mPush]
    refine r_if_eq (tgt := 30) hX dX4_set_25 (by decide) (fun c12 => ?_) (fun c12 => ?_)
    · have hs13 := mnone0 nr10 (by first | exact c12 | exact Classical.not_not.mp c12)
      obtain ⟨i14, hhi14, rfl⟩ := mnone0 nr3 hs13.1
      refine r_aload_n hX dX4_set_30 rfl rfl ?_
      refine r_get hX kf_X4_17 14 rfl rfl dX4_set_31 ?_
      refine r_iload_n hX dX4_set_34 rfl rfl ?_
      refine r_iald hX 17 0 rfl rfl (vp_in_nI (Nat.lt_of_lt_of_le hhi14 (by decide)) (by decide)) dX4_set_35 ?_
      obtain ⟨d15, ed15, ld15, ud15⟩ := (mday (mWF2 eJ11 hJ) (Nat.lt_of_lt_of_le hhi14 (by decide)))
      rw [ed15]
      refine r_callS hX (c_X4_parts cs _ d15 ld15 ud15) ks_X4_170 rfl rfl (Nat.le_of_ble_eq_true rfl) ⟨(Nat.le_of_ble_eq_true rfl), (Nat.le_of_ble_eq_true rfl)⟩ ⟨(Nat.le_of_ble_eq_true rfl), (Nat.le_of_ble_eq_true rfl)⟩ dX4_set_36 (fun _ _ z => False.elim z) (fun v9 ws9 h16 => ?_)
      obtain ⟨y18, m19, dd20, f21, q22, hyy18, hyy182, hmm19, hmm192, hddd20, hddd202, hsf21, f0f21, f1f21, f2f21, rfl, hw9⟩ := h16
      subst ws9
      dsimp only [mPush]
      rw [mRw_app]
      have hdmdd20 := dm_b y18 m19
      refine r_astore hX dX4_set_39 (by decide) rfl ?_
      refine r_aload_n hX dX4_set_41 rfl rfl ?_
      refine r_get hX kf_X4_20 14 rfl rfl dX4_set_42 ?_
      refine r_iload_n hX dX4_set_45 rfl rfl ?_
      refine r_iald hX 18 0 rfl rfl (vp_in_nI (Nat.lt_of_lt_of_le hhi14 (by decide)) (by decide)) dX4_set_46 ?_
      refine r_istore hX dX4_set_47 (by decide) rfl ?_
      refine r_iload_n hX dX4_set_49 rfl rfl ?_
      by_cases s23 : (nI i7).toInt = 0
      · refine r_tableIn (off := 42) (tgt := 92) hX dX4_set_50 (by omega) (by omega) (by rw [s23]; rfl) (by decide) ?_
        refine r_iload_n hX dX4_set_92 rfl rfl ?_
        refine r_i2l hX dX4_set_93 ?_
        refine r_ldc2 hX kc_X4_147 dX4_set_94 ?_
        refine r_ldc2 hX kc_X4_149 dX4_set_97 ?_
        refine r_callS hX (c_X4_isIn _ _ _ _ _) ks_X4_38 rfl rfl (Nat.le_of_ble_eq_true rfl) ⟨(Nat.le_of_ble_eq_true rfl), (Nat.le_of_ble_eq_true rfl)⟩ ⟨(Nat.le_of_ble_eq_true rfl), (Nat.le_of_ble_eq_true rfl)⟩ dX4_set_100 (fun _ _ z => False.elim z) (fun v9 ws9 h24 => ?_)
        obtain ⟨rfl, hw9⟩ := h24
        subst ws9
        dsimp only [mPush]
        refine r_if_eq (tgt := 123) hX dX4_set_103 (by decide) (fun c26 => ?_) (fun c26 => ?_)
        · refine r_aload_n hX dX4_set_123 rfl rfl ?_
          refine r_callV hX (c_X4_no _ _ _ _ _ _) kv_X4_80 14 rfl rfl rfl rfl (Nat.le_of_ble_eq_true rfl) ⟨(Nat.le_of_ble_eq_true rfl), (Nat.le_of_ble_eq_true rfl)⟩ ⟨(Nat.le_of_ble_eq_true rfl), (Nat.le_of_ble_eq_true rfl)⟩ dX4_set_124 (fun _ _ z => False.elim z) (fun v9 ws9 h27 => ?_)
          obtain ⟨J29, etJ29, eJ29, rfl, hw9⟩ := h27
          subst ws9
          dsimp only [mPush]
          refine r_eqw (mRw_app (rest := rest)).symm (r_drop ?_)
          exact r_iret hX hE dX4_set_127 (Nat.le_of_ble_eq_true rfl) (Nat.le_of_ble_eq_true rfl) ⟨_, J29, (mWF2 eJ29 (mWF2 eJ11 hJ)), ((congrArg Prod.fst eJ29).trans ((congrArg Prod.fst eJ11).trans rfl)), rfl, rfl⟩
        · obtain ⟨i30, li30, hhi30, rfl⟩ := fwin 1910 2030 (by decide) (by decide) (by decide) (by decide) c26
          refine r_aload_n hX dX4_set_106 rfl rfl ?_
          refine r_iload_n hX dX4_set_107 rfl rfl ?_
          refine r_iload_n hX dX4_set_108 rfl rfl ?_
          refine r_aload hX dX4_set_109 rfl ?_
          refine r_iconst (v := 1) hX dX4_set_111 (by decide) ?_
          refine r_iald hX (rest.length + 21) 0 mLast rfl (vp_in_nI (n := 1) (N := 4) (by decide) (by decide)) dX4_set_112 ?_
          rw [show (1 : Int32).toNatClampNeg = 1 from by decide, f1f21]
          refine r_aload hX dX4_set_113 rfl ?_
          refine r_iconst (v := 2) hX dX4_set_115 (by decide) ?_
          refine r_iald hX (rest.length + 21) 0 mLast rfl (vp_in_nI (n := 2) (N := 4) (by decide) (by decide)) dX4_set_116 ?_
          rw [show (2 : Int32).toNatClampNeg = 2 from by decide, f2f21]
          refine r_callV hX (c_X4_putDay _ _ _ _ J11 _ (mWF2 eJ11 hJ) i14 hhi14 i30 hhi30 m19 (by omega) dd20 (by omega) (by omega) (by omega) (by omega)) kv_X4_174 14 rfl rfl rfl rfl (Nat.le_of_ble_eq_true rfl) ⟨(Nat.le_of_ble_eq_true rfl), (Nat.le_of_ble_eq_true rfl)⟩ ⟨(Nat.le_of_ble_eq_true rfl), (Nat.le_of_ble_eq_true rfl)⟩ dX4_set_117 (fun _ _ z => False.elim z) (fun v9 ws9 h31 => ?_)
          obtain ⟨r33, J34, hJ34, oJ34, rfl, hw9⟩ := h31
          subst ws9
          dsimp only [mPush]
          refine r_goto (tgt := 127) hX dX4_set_120 (by decide) ?_
          refine r_eqw (mRw_app (rest := rest)).symm (r_drop ?_)
          exact r_iret hX hE dX4_set_127 (Nat.le_of_ble_eq_true rfl) (Nat.le_of_ble_eq_true rfl) ⟨_, J34, hJ34, (oJ34.trans ((congrArg Prod.fst eJ11).trans rfl)), rfl, rfl⟩
      by_cases s35 : (nI i7).toInt = 1
      · refine r_tableIn (off := 78) (tgt := 128) hX dX4_set_50 (by omega) (by omega) (by rw [s35]; rfl) (by decide) ?_
        refine r_iload_n hX dX4_set_128 rfl rfl ?_
        refine r_i2l hX dX4_set_129 ?_
        refine r_lconst (v := 1) hX dX4_set_130 (by decide) ?_
        refine r_ldc2 hX kc_X4_151 dX4_set_131 ?_
        refine r_callS hX (c_X4_isIn _ _ _ _ _) ks_X4_38 rfl rfl (Nat.le_of_ble_eq_true rfl) ⟨(Nat.le_of_ble_eq_true rfl), (Nat.le_of_ble_eq_true rfl)⟩ ⟨(Nat.le_of_ble_eq_true rfl), (Nat.le_of_ble_eq_true rfl)⟩ dX4_set_134 (fun _ _ z => False.elim z) (fun v9 ws9 h36 => ?_)
        obtain ⟨rfl, hw9⟩ := h36
        subst ws9
        dsimp only [mPush]
        refine r_if_eq (tgt := 157) hX dX4_set_137 (by decide) (fun c38 => ?_) (fun c38 => ?_)
        · refine r_aload_n hX dX4_set_157 rfl rfl ?_
          refine r_callV hX (c_X4_no _ _ _ _ _ _) kv_X4_80 14 rfl rfl rfl rfl (Nat.le_of_ble_eq_true rfl) ⟨(Nat.le_of_ble_eq_true rfl), (Nat.le_of_ble_eq_true rfl)⟩ ⟨(Nat.le_of_ble_eq_true rfl), (Nat.le_of_ble_eq_true rfl)⟩ dX4_set_158 (fun _ _ z => False.elim z) (fun v9 ws9 h39 => ?_)
          obtain ⟨J41, etJ41, eJ41, rfl, hw9⟩ := h39
          subst ws9
          dsimp only [mPush]
          refine r_eqw (mRw_app (rest := rest)).symm (r_drop ?_)
          exact r_iret hX hE dX4_set_161 (Nat.le_of_ble_eq_true rfl) (Nat.le_of_ble_eq_true rfl) ⟨_, J41, (mWF2 eJ41 (mWF2 eJ11 hJ)), ((congrArg Prod.fst eJ41).trans ((congrArg Prod.fst eJ11).trans rfl)), rfl, rfl⟩
        · obtain ⟨i42, li42, hhi42, rfl⟩ := fwin 1 12 (by decide) (by decide) (by decide) (by decide) c38
          refine r_aload_n hX dX4_set_140 rfl rfl ?_
          refine r_iload_n hX dX4_set_141 rfl rfl ?_
          refine r_aload hX dX4_set_142 rfl ?_
          refine r_iconst (v := 0) hX dX4_set_144 (by decide) ?_
          refine r_iald hX (rest.length + 21) 0 mLast rfl (vp_in_nI (n := 0) (N := 4) (by decide) (by decide)) dX4_set_145 ?_
          rw [show (0 : Int32).toNatClampNeg = 0 from by decide, f0f21]
          refine r_iload_n hX dX4_set_146 rfl rfl ?_
          refine r_aload hX dX4_set_147 rfl ?_
          refine r_iconst (v := 2) hX dX4_set_149 (by decide) ?_
          refine r_iald hX (rest.length + 21) 0 mLast rfl (vp_in_nI (n := 2) (N := 4) (by decide) (by decide)) dX4_set_150 ?_
          rw [show (2 : Int32).toNatClampNeg = 2 from by decide, f2f21]
          refine r_callV hX (c_X4_putDay _ _ _ _ J11 _ (mWF2 eJ11 hJ) i14 hhi14 y18 (by omega) i42 hhi42 dd20 (by omega) (by omega) (by omega) (by omega)) kv_X4_174 14 rfl rfl rfl rfl (Nat.le_of_ble_eq_true rfl) ⟨(Nat.le_of_ble_eq_true rfl), (Nat.le_of_ble_eq_true rfl)⟩ ⟨(Nat.le_of_ble_eq_true rfl), (Nat.le_of_ble_eq_true rfl)⟩ dX4_set_151 (fun _ _ z => False.elim z) (fun v9 ws9 h43 => ?_)
          obtain ⟨r45, J46, hJ46, oJ46, rfl, hw9⟩ := h43
          subst ws9
          dsimp only [mPush]
          refine r_goto (tgt := 161) hX dX4_set_154 (by decide) ?_
          refine r_eqw (mRw_app (rest := rest)).symm (r_drop ?_)
          exact r_iret hX hE dX4_set_161 (Nat.le_of_ble_eq_true rfl) (Nat.le_of_ble_eq_true rfl) ⟨_, J46, hJ46, (oJ46.trans ((congrArg Prod.fst eJ11).trans rfl)), rfl, rfl⟩
      by_cases s47 : (nI i7).toInt = 2
      · refine r_tableIn (off := 112) (tgt := 162) hX dX4_set_50 (by omega) (by omega) (by rw [s47]; rfl) (by decide) ?_
        refine r_aload hX dX4_set_162 rfl ?_
        refine r_iconst (v := 0) hX dX4_set_164 (by decide) ?_
        refine r_iald hX (rest.length + 21) 0 mLast rfl (vp_in_nI (n := 0) (N := 4) (by decide) (by decide)) dX4_set_165 ?_
        rw [show (0 : Int32).toNatClampNeg = 0 from by decide, f0f21]
        refine r_aload hX dX4_set_166 rfl ?_
        refine r_iconst (v := 1) hX dX4_set_168 (by decide) ?_
        refine r_iald hX (rest.length + 21) 0 mLast rfl (vp_in_nI (n := 1) (N := 4) (by decide) (by decide)) dX4_set_169 ?_
        rw [show (1 : Int32).toNatClampNeg = 1 from by decide, f1f21]
        refine r_iload_n hX dX4_set_170 rfl rfl ?_
        refine r_callS hX (c_X4_isThere _ _ _ _ _) ks_X4_159 rfl rfl (Nat.le_of_ble_eq_true rfl) ⟨(Nat.le_of_ble_eq_true rfl), (Nat.le_of_ble_eq_true rfl)⟩ ⟨(Nat.le_of_ble_eq_true rfl), (Nat.le_of_ble_eq_true rfl)⟩ dX4_set_171 (fun _ _ z => False.elim z) (fun v9 ws9 h48 => ?_)
        obtain ⟨r50, nr50, rfl, hw9⟩ := h48
        subst ws9
        dsimp only [mPush]
        refine r_if_eq (tgt := 194) hX dX4_set_174 (by decide) (fun c51 => ?_) (fun c51 => ?_)
        · refine r_aload_n hX dX4_set_194 rfl rfl ?_
          refine r_callV hX (c_X4_no _ _ _ _ _ _) kv_X4_80 14 rfl rfl rfl rfl (Nat.le_of_ble_eq_true rfl) ⟨(Nat.le_of_ble_eq_true rfl), (Nat.le_of_ble_eq_true rfl)⟩ ⟨(Nat.le_of_ble_eq_true rfl), (Nat.le_of_ble_eq_true rfl)⟩ dX4_set_195 (fun _ _ z => False.elim z) (fun v9 ws9 h52 => ?_)
          obtain ⟨J54, etJ54, eJ54, rfl, hw9⟩ := h52
          subst ws9
          dsimp only [mPush]
          refine r_eqw (mRw_app (rest := rest)).symm (r_drop ?_)
          exact r_iret hX hE dX4_set_198 (Nat.le_of_ble_eq_true rfl) (Nat.le_of_ble_eq_true rfl) ⟨_, J54, (mWF2 eJ54 (mWF2 eJ11 hJ)), ((congrArg Prod.fst eJ54).trans ((congrArg Prod.fst eJ11).trans rfl)), rfl, rfl⟩
        · have hd55 := mnone1 nr50 c51
          obtain ⟨ty56, tm57, td58, tq1ty56, tq2ty56, tq3ty56, tq4ty56, tq5ty56, tq6ty56, tety56, tetm57, rfl⟩ := hd55
          have tdmtd58 := dm_b ty56 tm57
          refine r_aload_n hX dX4_set_177 rfl rfl ?_
          refine r_iload_n hX dX4_set_178 rfl rfl ?_
          refine r_aload hX dX4_set_179 rfl ?_
          refine r_iconst (v := 0) hX dX4_set_181 (by decide) ?_
          refine r_iald hX (rest.length + 21) 0 mLast rfl (vp_in_nI (n := 0) (N := 4) (by decide) (by decide)) dX4_set_182 ?_
          rw [show (0 : Int32).toNatClampNeg = 0 from by decide, f0f21]
          refine r_aload hX dX4_set_183 rfl ?_
          refine r_iconst (v := 1) hX dX4_set_185 (by decide) ?_
          refine r_iald hX (rest.length + 21) 0 mLast rfl (vp_in_nI (n := 1) (N := 4) (by decide) (by decide)) dX4_set_186 ?_
          rw [show (1 : Int32).toNatClampNeg = 1 from by decide, f1f21]
          refine r_iload_n hX dX4_set_187 rfl rfl ?_
          refine r_callV hX (c_X4_putDay _ _ _ _ J11 _ (mWF2 eJ11 hJ) i14 hhi14 y18 (by omega) m19 (by omega) td58 (by omega) (by omega) (by omega) (by omega)) kv_X4_174 14 rfl rfl rfl rfl (Nat.le_of_ble_eq_true rfl) ⟨(Nat.le_of_ble_eq_true rfl), (Nat.le_of_ble_eq_true rfl)⟩ ⟨(Nat.le_of_ble_eq_true rfl), (Nat.le_of_ble_eq_true rfl)⟩ dX4_set_188 (fun _ _ z => False.elim z) (fun v9 ws9 h59 => ?_)
          obtain ⟨r61, J62, hJ62, oJ62, rfl, hw9⟩ := h59
          subst ws9
          dsimp only [mPush]
          refine r_goto (tgt := 198) hX dX4_set_191 (by decide) ?_
          refine r_eqw (mRw_app (rest := rest)).symm (r_drop ?_)
          exact r_iret hX hE dX4_set_198 (Nat.le_of_ble_eq_true rfl) (Nat.le_of_ble_eq_true rfl) ⟨_, J62, hJ62, (oJ62.trans ((congrArg Prod.fst eJ11).trans rfl)), rfl, rfl⟩
      by_cases s63 : (nI i7).toInt = 3
      · refine r_tableIn (off := 149) (tgt := 199) hX dX4_set_50 (by omega) (by omega) (by rw [s63]; rfl) (by decide) ?_
        refine r_iload_n hX dX4_set_199 rfl rfl ?_
        refine r_i2l hX dX4_set_200 ?_
        refine r_lconst (v := 1) hX dX4_set_201 (by decide) ?_
        refine r_aload hX dX4_set_202 rfl ?_
        refine r_iconst (v := 0) hX dX4_set_204 (by decide) ?_
        refine r_iald hX (rest.length + 21) 0 mLast rfl (vp_in_nI (n := 0) (N := 4) (by decide) (by decide)) dX4_set_205 ?_
        rw [show (0 : Int32).toNatClampNeg = 0 from by decide, f0f21]
        refine r_callS hX (c_X4_daysOf_ _ _ y18 (by omega)) ks_X4_48 rfl rfl (Nat.le_of_ble_eq_true rfl) ⟨(Nat.le_of_ble_eq_true rfl), (Nat.le_of_ble_eq_true rfl)⟩ ⟨(Nat.le_of_ble_eq_true rfl), (Nat.le_of_ble_eq_true rfl)⟩ dX4_set_206 (fun _ _ z => False.elim z) (fun v9 ws9 h64 => ?_)
        obtain ⟨rfl, hw9⟩ := h64
        subst ws9
        dsimp only [mPush]
        have hyl66 := yl_b y18
        refine r_i2l hX dX4_set_209 ?_
        refine r_callS hX (c_X4_isIn _ _ _ _ _) ks_X4_38 rfl rfl (Nat.le_of_ble_eq_true rfl) ⟨(Nat.le_of_ble_eq_true rfl), (Nat.le_of_ble_eq_true rfl)⟩ ⟨(Nat.le_of_ble_eq_true rfl), (Nat.le_of_ble_eq_true rfl)⟩ dX4_set_210 (fun _ _ z => False.elim z) (fun v9 ws9 h67 => ?_)
        obtain ⟨rfl, hw9⟩ := h67
        subst ws9
        dsimp only [mPush]
        refine r_if_ne (tgt := 221) hX dX4_set_213 (by decide) (fun c69 => ?_) (fun c69 => ?_)
        · obtain ⟨i70, li70, hhi70, rfl⟩ := fwin 1 (yl y18) (by decide) (by omega) (by decide) rfl c69
          refine r_aload_n hX dX4_set_221 rfl rfl ?_
          refine r_get hX kf_X4_17 14 rfl rfl dX4_set_222 ?_
          refine r_iload_n hX dX4_set_225 rfl rfl ?_
          refine r_aload hX dX4_set_226 rfl ?_
          refine r_iconst (v := 0) hX dX4_set_228 (by decide) ?_
          refine r_iald hX (rest.length + 21) 0 mLast rfl (vp_in_nI (n := 0) (N := 4) (by decide) (by decide)) dX4_set_229 ?_
          rw [show (0 : Int32).toNatClampNeg = 0 from by decide, f0f21]
          refine r_callS hX (c_X4_firstOf _ _ y18 (by omega) (by omega)) ks_X4_52 rfl rfl (Nat.le_of_ble_eq_true rfl) ⟨(Nat.le_of_ble_eq_true rfl), (Nat.le_of_ble_eq_true rfl)⟩ ⟨(Nat.le_of_ble_eq_true rfl), (Nat.le_of_ble_eq_true rfl)⟩ dX4_set_230 (fun _ _ z => False.elim z) (fun v9 ws9 h71 => ?_)
          obtain ⟨rfl, hw9⟩ := h71
          subst ws9
          dsimp only [mPush]
          refine r_iload_n hX dX4_set_233 rfl rfl ?_
          refine r_iadd hX dX4_set_234 ?_
          refine r_iconst (v := 1) hX dX4_set_235 (by decide) ?_
          refine r_isub hX dX4_set_236 ?_
          have hd273 := day_in2 (y := y18) (n := i70) (by omega) (by omega) (by omega) (by omega)
          have ehd273 : iZ (FO y18) + nI i70 - 1 = iZ (FO y18 + (i70 : Int) - 1) := by rw [iZ_nI i70, iZ_add, show (1 : Int32) = iZ 1 from by decide, iZ_sub]
          refine r_iast hX 17 0 rfl rfl (vp_in_nI (Nat.lt_of_lt_of_le hhi14 (by decide)) (by decide)) dX4_set_237 ?_
          refine r_eqw (ws' := mRw ad ae cs K (J11.1, J11.2.1, J11.2.2.1, upd J11.2.2.2.1 ((nI i14)).toNatClampNeg _, J11.2.2.2.2.1, J11.2.2.2.2.2.1, J11.2.2.2.2.2.2) (rest ++ [_])) rfl ?_
          refine r_aload_n hX dX4_set_238 rfl rfl ?_
          refine r_get hX kf_X4_17 14 rfl rfl dX4_set_239 ?_
          refine r_iload_n hX dX4_set_242 rfl rfl ?_
          refine r_iald hX 17 0 rfl rfl (vp_in_nI (Nat.lt_of_lt_of_le hhi14 (by decide)) (by decide)) dX4_set_243 ?_
          refine r_eqw (mRw_app (rest := rest)).symm (r_drop ?_)
          exact r_iret hX hE dX4_set_244 (Nat.le_of_ble_eq_true rfl) (Nat.le_of_ble_eq_true rfl) ⟨_, (J11.1, J11.2.1, J11.2.2.1, upd J11.2.2.2.1 ((nI i14)).toNatClampNeg _, J11.2.2.2.2.1, J11.2.2.2.2.2.1, J11.2.2.2.2.2.2), (mWF.put (mWF2 eJ11 hJ) ⟨_, ehd273, hd273.1, hd273.2⟩), ((congrArg Prod.fst eJ11).trans rfl), rfl, rfl⟩
        · refine r_aload_n hX dX4_set_216 rfl rfl ?_
          refine r_callV hX (c_X4_no _ _ _ _ _ _) kv_X4_80 14 rfl rfl rfl rfl (Nat.le_of_ble_eq_true rfl) ⟨(Nat.le_of_ble_eq_true rfl), (Nat.le_of_ble_eq_true rfl)⟩ ⟨(Nat.le_of_ble_eq_true rfl), (Nat.le_of_ble_eq_true rfl)⟩ dX4_set_217 (fun _ _ z => False.elim z) (fun v9 ws9 h74 => ?_)
          obtain ⟨J76, etJ76, eJ76, rfl, hw9⟩ := h74
          subst ws9
          dsimp only [mPush]
          refine r_eqw (mRw_app (rest := rest)).symm (r_drop ?_)
          exact r_iret hX hE dX4_set_220 (Nat.le_of_ble_eq_true rfl) (Nat.le_of_ble_eq_true rfl) ⟨_, J76, (mWF2 eJ76 (mWF2 eJ11 hJ)), ((congrArg Prod.fst eJ76).trans ((congrArg Prod.fst eJ11).trans rfl)), rfl, rfl⟩
      by_cases s77 : (nI i7).toInt = 4
      · refine r_tableIn (off := 195) (tgt := 245) hX dX4_set_50 (by omega) (by omega) (by rw [s77]; rfl) (by decide) ?_
        refine r_iload_n hX dX4_set_245 rfl rfl ?_
        refine r_i2l hX dX4_set_246 ?_
        refine r_lconst (v := 0) hX dX4_set_247 (by decide) ?_
        refine r_ldc2 hX kc_X4_191 dX4_set_248 ?_
        refine r_callS hX (c_X4_isIn _ _ _ _ _) ks_X4_38 rfl rfl (Nat.le_of_ble_eq_true rfl) ⟨(Nat.le_of_ble_eq_true rfl), (Nat.le_of_ble_eq_true rfl)⟩ ⟨(Nat.le_of_ble_eq_true rfl), (Nat.le_of_ble_eq_true rfl)⟩ dX4_set_251 (fun _ _ z => False.elim z) (fun v9 ws9 h78 => ?_)
        obtain ⟨rfl, hw9⟩ := h78
        subst ws9
        dsimp only [mPush]
        refine r_if_eq (tgt := 295) hX dX4_set_254 (by decide) (fun c80 => ?_) (fun c80 => ?_)
        · refine r_aload_n hX dX4_set_295 rfl rfl ?_
          refine r_callV hX (c_X4_no _ _ _ _ _ _) kv_X4_80 14 rfl rfl rfl rfl (Nat.le_of_ble_eq_true rfl) ⟨(Nat.le_of_ble_eq_true rfl), (Nat.le_of_ble_eq_true rfl)⟩ ⟨(Nat.le_of_ble_eq_true rfl), (Nat.le_of_ble_eq_true rfl)⟩ dX4_set_296 (fun _ _ z => False.elim z) (fun v9 ws9 h81 => ?_)
          obtain ⟨J83, etJ83, eJ83, rfl, hw9⟩ := h81
          subst ws9
          dsimp only [mPush]
          refine r_eqw (mRw_app (rest := rest)).symm (r_drop ?_)
          exact r_iret hX hE dX4_set_299 (Nat.le_of_ble_eq_true rfl) (Nat.le_of_ble_eq_true rfl) ⟨_, J83, (mWF2 eJ83 (mWF2 eJ11 hJ)), ((congrArg Prod.fst eJ83).trans ((congrArg Prod.fst eJ11).trans rfl)), rfl, rfl⟩
        · obtain ⟨i84, li84, hhi84, rfl⟩ := fwin 0 23 (by decide) (by decide) (by decide) (by decide) c80
          refine r_aload_n hX dX4_set_257 rfl rfl ?_
          refine r_iload_n hX dX4_set_258 rfl rfl ?_
          refine r_aload_n hX dX4_set_259 rfl rfl ?_
          refine r_get hX kf_X4_17 14 rfl rfl dX4_set_260 ?_
          refine r_iload_n hX dX4_set_263 rfl rfl ?_
          refine r_iald hX 17 0 rfl rfl (vp_in_nI (Nat.lt_of_lt_of_le hhi14 (by decide)) (by decide)) dX4_set_264 ?_
          refine r_sipush (v := 3600) hX dX4_set_265 (by decide) ?_
          refine r_iload_n hX dX4_set_268 rfl rfl ?_
          refine r_imul hX dX4_set_269 ?_
          refine r_iload hX dX4_set_270 rfl ?_
          refine r_sipush (v := 3600) hX dX4_set_272 (by decide) ?_
          refine r_irem hX dX4_set_275 (by first | decide | assumption) ?_
          refine r_iadd hX dX4_set_276 ?_
          refine r_aload_n hX dX4_set_277 rfl rfl ?_
          refine r_get hX kf_X4_23 14 rfl rfl dX4_set_278 ?_
          refine r_iload_n hX dX4_set_281 rfl rfl ?_
          refine r_iald hX 19 0 rfl rfl (vp_in_nI (Nat.lt_of_lt_of_le hhi14 (by decide)) (by decide)) dX4_set_282 ?_
          refine r_aload_n hX dX4_set_283 rfl rfl ?_
          refine r_get hX kf_X4_26 14 rfl rfl dX4_set_284 ?_
          refine r_iload_n hX dX4_set_287 rfl rfl ?_
          refine r_iald hX 20 0 rfl rfl (vp_in_nI (Nat.lt_of_lt_of_le hhi14 (by decide)) (by decide)) dX4_set_288 ?_
          refine r_callV hX (c_X4_put _ _ _ _ J11 _ (mWF2 eJ11 hJ) i14 (Nat.lt_of_lt_of_le hhi14 (by decide)) _ _ _ _ (mday (mWF2 eJ11 hJ) (Nat.lt_of_lt_of_le hhi14 (by decide)))) kv_X4_139 14 rfl rfl rfl rfl (Nat.le_of_ble_eq_true rfl) ⟨(Nat.le_of_ble_eq_true rfl), (Nat.le_of_ble_eq_true rfl)⟩ ⟨(Nat.le_of_ble_eq_true rfl), (Nat.le_of_ble_eq_true rfl)⟩ dX4_set_289 (fun _ _ z => False.elim z) (fun v9 ws9 h85 => ?_)
          obtain ⟨r87, J88, hJ88, oJ88, rfl, hw9⟩ := h85
          subst ws9
          dsimp only [mPush]
          refine r_goto (tgt := 299) hX dX4_set_292 (by decide) ?_
          refine r_eqw (mRw_app (rest := rest)).symm (r_drop ?_)
          exact r_iret hX hE dX4_set_299 (Nat.le_of_ble_eq_true rfl) (Nat.le_of_ble_eq_true rfl) ⟨_, J88, hJ88, (oJ88.trans ((congrArg Prod.fst eJ11).trans rfl)), rfl, rfl⟩
      by_cases s89 : (nI i7).toInt = 5
      · refine r_tableIn (off := 250) (tgt := 300) hX dX4_set_50 (by omega) (by omega) (by rw [s89]; rfl) (by decide) ?_
        refine r_iload_n hX dX4_set_300 rfl rfl ?_
        refine r_i2l hX dX4_set_301 ?_
        refine r_lconst (v := 0) hX dX4_set_302 (by decide) ?_
        refine r_ldc2 hX kc_X4_78 dX4_set_303 ?_
        refine r_callS hX (c_X4_isIn _ _ _ _ _) ks_X4_38 rfl rfl (Nat.le_of_ble_eq_true rfl) ⟨(Nat.le_of_ble_eq_true rfl), (Nat.le_of_ble_eq_true rfl)⟩ ⟨(Nat.le_of_ble_eq_true rfl), (Nat.le_of_ble_eq_true rfl)⟩ dX4_set_306 (fun _ _ z => False.elim z) (fun v9 ws9 h90 => ?_)
        obtain ⟨rfl, hw9⟩ := h90
        subst ws9
        dsimp only [mPush]
        refine r_if_eq (tgt := 359) hX dX4_set_309 (by decide) (fun c92 => ?_) (fun c92 => ?_)
        · refine r_aload_n hX dX4_set_359 rfl rfl ?_
          refine r_callV hX (c_X4_no _ _ _ _ _ _) kv_X4_80 14 rfl rfl rfl rfl (Nat.le_of_ble_eq_true rfl) ⟨(Nat.le_of_ble_eq_true rfl), (Nat.le_of_ble_eq_true rfl)⟩ ⟨(Nat.le_of_ble_eq_true rfl), (Nat.le_of_ble_eq_true rfl)⟩ dX4_set_360 (fun _ _ z => False.elim z) (fun v9 ws9 h93 => ?_)
          obtain ⟨J95, etJ95, eJ95, rfl, hw9⟩ := h93
          subst ws9
          dsimp only [mPush]
          refine r_eqw (mRw_app (rest := rest)).symm (r_drop ?_)
          exact r_iret hX hE dX4_set_363 (Nat.le_of_ble_eq_true rfl) (Nat.le_of_ble_eq_true rfl) ⟨_, J95, (mWF2 eJ95 (mWF2 eJ11 hJ)), ((congrArg Prod.fst eJ95).trans ((congrArg Prod.fst eJ11).trans rfl)), rfl, rfl⟩
        · obtain ⟨i96, li96, hhi96, rfl⟩ := fwin 0 59 (by decide) (by decide) (by decide) (by decide) c92
          refine r_aload_n hX dX4_set_312 rfl rfl ?_
          refine r_iload_n hX dX4_set_313 rfl rfl ?_
          refine r_aload_n hX dX4_set_314 rfl rfl ?_
          refine r_get hX kf_X4_17 14 rfl rfl dX4_set_315 ?_
          refine r_iload_n hX dX4_set_318 rfl rfl ?_
          refine r_iald hX 17 0 rfl rfl (vp_in_nI (Nat.lt_of_lt_of_le hhi14 (by decide)) (by decide)) dX4_set_319 ?_
          refine r_iload hX dX4_set_320 rfl ?_
          refine r_sipush (v := 3600) hX dX4_set_322 (by decide) ?_
          refine r_idiv hX dX4_set_325 (by first | decide | assumption) ?_
          refine r_sipush (v := 3600) hX dX4_set_326 (by decide) ?_
          refine r_imul hX dX4_set_329 ?_
          refine r_bipush (v := 60) hX dX4_set_330 (by decide) ?_
          refine r_iload_n hX dX4_set_332 rfl rfl ?_
          refine r_imul hX dX4_set_333 ?_
          refine r_iadd hX dX4_set_334 ?_
          refine r_iload hX dX4_set_335 rfl ?_
          refine r_bipush (v := 60) hX dX4_set_337 (by decide) ?_
          refine r_irem hX dX4_set_339 (by first | decide | assumption) ?_
          refine r_iadd hX dX4_set_340 ?_
          refine r_aload_n hX dX4_set_341 rfl rfl ?_
          refine r_get hX kf_X4_23 14 rfl rfl dX4_set_342 ?_
          refine r_iload_n hX dX4_set_345 rfl rfl ?_
          refine r_iald hX 19 0 rfl rfl (vp_in_nI (Nat.lt_of_lt_of_le hhi14 (by decide)) (by decide)) dX4_set_346 ?_
          refine r_aload_n hX dX4_set_347 rfl rfl ?_
          refine r_get hX kf_X4_26 14 rfl rfl dX4_set_348 ?_
          refine r_iload_n hX dX4_set_351 rfl rfl ?_
          refine r_iald hX 20 0 rfl rfl (vp_in_nI (Nat.lt_of_lt_of_le hhi14 (by decide)) (by decide)) dX4_set_352 ?_
          refine r_callV hX (c_X4_put _ _ _ _ J11 _ (mWF2 eJ11 hJ) i14 (Nat.lt_of_lt_of_le hhi14 (by decide)) _ _ _ _ (mday (mWF2 eJ11 hJ) (Nat.lt_of_lt_of_le hhi14 (by decide)))) kv_X4_139 14 rfl rfl rfl rfl (Nat.le_of_ble_eq_true rfl) ⟨(Nat.le_of_ble_eq_true rfl), (Nat.le_of_ble_eq_true rfl)⟩ ⟨(Nat.le_of_ble_eq_true rfl), (Nat.le_of_ble_eq_true rfl)⟩ dX4_set_353 (fun _ _ z => False.elim z) (fun v9 ws9 h97 => ?_)
          obtain ⟨r99, J100, hJ100, oJ100, rfl, hw9⟩ := h97
          subst ws9
          dsimp only [mPush]
          refine r_goto (tgt := 363) hX dX4_set_356 (by decide) ?_
          refine r_eqw (mRw_app (rest := rest)).symm (r_drop ?_)
          exact r_iret hX hE dX4_set_363 (Nat.le_of_ble_eq_true rfl) (Nat.le_of_ble_eq_true rfl) ⟨_, J100, hJ100, (oJ100.trans ((congrArg Prod.fst eJ11).trans rfl)), rfl, rfl⟩
      by_cases s101 : (nI i7).toInt = 6
      · refine r_tableIn (off := 314) (tgt := 364) hX dX4_set_50 (by omega) (by omega) (by rw [s101]; rfl) (by decide) ?_
        refine r_iload_n hX dX4_set_364 rfl rfl ?_
        refine r_i2l hX dX4_set_365 ?_
        refine r_lconst (v := 0) hX dX4_set_366 (by decide) ?_
        refine r_ldc2 hX kc_X4_78 dX4_set_367 ?_
        refine r_callS hX (c_X4_isIn _ _ _ _ _) ks_X4_38 rfl rfl (Nat.le_of_ble_eq_true rfl) ⟨(Nat.le_of_ble_eq_true rfl), (Nat.le_of_ble_eq_true rfl)⟩ ⟨(Nat.le_of_ble_eq_true rfl), (Nat.le_of_ble_eq_true rfl)⟩ dX4_set_370 (fun _ _ z => False.elim z) (fun v9 ws9 h102 => ?_)
        obtain ⟨rfl, hw9⟩ := h102
        subst ws9
        dsimp only [mPush]
        refine r_if_eq (tgt := 412) hX dX4_set_373 (by decide) (fun c104 => ?_) (fun c104 => ?_)
        · refine r_aload_n hX dX4_set_412 rfl rfl ?_
          refine r_callV hX (c_X4_no _ _ _ _ _ _) kv_X4_80 14 rfl rfl rfl rfl (Nat.le_of_ble_eq_true rfl) ⟨(Nat.le_of_ble_eq_true rfl), (Nat.le_of_ble_eq_true rfl)⟩ ⟨(Nat.le_of_ble_eq_true rfl), (Nat.le_of_ble_eq_true rfl)⟩ dX4_set_413 (fun _ _ z => False.elim z) (fun v9 ws9 h105 => ?_)
          obtain ⟨J107, etJ107, eJ107, rfl, hw9⟩ := h105
          subst ws9
          dsimp only [mPush]
          refine r_eqw (mRw_app (rest := rest)).symm (r_drop ?_)
          exact r_iret hX hE dX4_set_416 (Nat.le_of_ble_eq_true rfl) (Nat.le_of_ble_eq_true rfl) ⟨_, J107, (mWF2 eJ107 (mWF2 eJ11 hJ)), ((congrArg Prod.fst eJ107).trans ((congrArg Prod.fst eJ11).trans rfl)), rfl, rfl⟩
        · obtain ⟨i108, li108, hhi108, rfl⟩ := fwin 0 59 (by decide) (by decide) (by decide) (by decide) c104
          refine r_aload_n hX dX4_set_376 rfl rfl ?_
          refine r_iload_n hX dX4_set_377 rfl rfl ?_
          refine r_aload_n hX dX4_set_378 rfl rfl ?_
          refine r_get hX kf_X4_17 14 rfl rfl dX4_set_379 ?_
          refine r_iload_n hX dX4_set_382 rfl rfl ?_
          refine r_iald hX 17 0 rfl rfl (vp_in_nI (Nat.lt_of_lt_of_le hhi14 (by decide)) (by decide)) dX4_set_383 ?_
          refine r_iload hX dX4_set_384 rfl ?_
          refine r_bipush (v := 60) hX dX4_set_386 (by decide) ?_
          refine r_idiv hX dX4_set_388 (by first | decide | assumption) ?_
          refine r_bipush (v := 60) hX dX4_set_389 (by decide) ?_
          refine r_imul hX dX4_set_391 ?_
          refine r_iload_n hX dX4_set_392 rfl rfl ?_
          refine r_iadd hX dX4_set_393 ?_
          refine r_aload_n hX dX4_set_394 rfl rfl ?_
          refine r_get hX kf_X4_23 14 rfl rfl dX4_set_395 ?_
          refine r_iload_n hX dX4_set_398 rfl rfl ?_
          refine r_iald hX 19 0 rfl rfl (vp_in_nI (Nat.lt_of_lt_of_le hhi14 (by decide)) (by decide)) dX4_set_399 ?_
          refine r_aload_n hX dX4_set_400 rfl rfl ?_
          refine r_get hX kf_X4_26 14 rfl rfl dX4_set_401 ?_
          refine r_iload_n hX dX4_set_404 rfl rfl ?_
          refine r_iald hX 20 0 rfl rfl (vp_in_nI (Nat.lt_of_lt_of_le hhi14 (by decide)) (by decide)) dX4_set_405 ?_
          refine r_callV hX (c_X4_put _ _ _ _ J11 _ (mWF2 eJ11 hJ) i14 (Nat.lt_of_lt_of_le hhi14 (by decide)) _ _ _ _ (mday (mWF2 eJ11 hJ) (Nat.lt_of_lt_of_le hhi14 (by decide)))) kv_X4_139 14 rfl rfl rfl rfl (Nat.le_of_ble_eq_true rfl) ⟨(Nat.le_of_ble_eq_true rfl), (Nat.le_of_ble_eq_true rfl)⟩ ⟨(Nat.le_of_ble_eq_true rfl), (Nat.le_of_ble_eq_true rfl)⟩ dX4_set_406 (fun _ _ z => False.elim z) (fun v9 ws9 h109 => ?_)
          obtain ⟨r111, J112, hJ112, oJ112, rfl, hw9⟩ := h109
          subst ws9
          dsimp only [mPush]
          refine r_goto (tgt := 416) hX dX4_set_409 (by decide) ?_
          refine r_eqw (mRw_app (rest := rest)).symm (r_drop ?_)
          exact r_iret hX hE dX4_set_416 (Nat.le_of_ble_eq_true rfl) (Nat.le_of_ble_eq_true rfl) ⟨_, J112, hJ112, (oJ112.trans ((congrArg Prod.fst eJ11).trans rfl)), rfl, rfl⟩
      refine r_tableOut (tgt := 417) hX dX4_set_50 (by omega) (by decide) ?_
      refine r_iload_n hX dX4_set_417 rfl rfl ?_
      refine r_i2l hX dX4_set_418 ?_
      refine r_lconst (v := 0) hX dX4_set_419 (by decide) ?_
      refine r_ldc2 hX kc_X4_145 dX4_set_420 ?_
      refine r_callS hX (c_X4_isIn _ _ _ _ _) ks_X4_38 rfl rfl (Nat.le_of_ble_eq_true rfl) ⟨(Nat.le_of_ble_eq_true rfl), (Nat.le_of_ble_eq_true rfl)⟩ ⟨(Nat.le_of_ble_eq_true rfl), (Nat.le_of_ble_eq_true rfl)⟩ dX4_set_423 (fun _ _ z => False.elim z) (fun v9 ws9 h113 => ?_)
      obtain ⟨rfl, hw9⟩ := h113
      subst ws9
      dsimp only [mPush]
      refine r_if_eq (tgt := 452) hX dX4_set_426 (by decide) (fun c115 => ?_) (fun c115 => ?_)
      · refine r_aload_n hX dX4_set_452 rfl rfl ?_
        refine r_callV hX (c_X4_no _ _ _ _ _ _) kv_X4_80 14 rfl rfl rfl rfl (Nat.le_of_ble_eq_true rfl) ⟨(Nat.le_of_ble_eq_true rfl), (Nat.le_of_ble_eq_true rfl)⟩ ⟨(Nat.le_of_ble_eq_true rfl), (Nat.le_of_ble_eq_true rfl)⟩ dX4_set_453 (fun _ _ z => False.elim z) (fun v9 ws9 h116 => ?_)
        obtain ⟨J118, etJ118, eJ118, rfl, hw9⟩ := h116
        subst ws9
        dsimp only [mPush]
        refine r_eqw (mRw_app (rest := rest)).symm (r_drop ?_)
        exact r_iret hX hE dX4_set_456 (Nat.le_of_ble_eq_true rfl) (Nat.le_of_ble_eq_true rfl) ⟨_, J118, (mWF2 eJ118 (mWF2 eJ11 hJ)), ((congrArg Prod.fst eJ118).trans ((congrArg Prod.fst eJ11).trans rfl)), rfl, rfl⟩
      · obtain ⟨i119, li119, hhi119, rfl⟩ := fwin 0 999999999 (by decide) (by decide) (by decide) (by decide) c115
        refine r_aload_n hX dX4_set_429 rfl rfl ?_
        refine r_iload_n hX dX4_set_430 rfl rfl ?_
        refine r_aload_n hX dX4_set_431 rfl rfl ?_
        refine r_get hX kf_X4_17 14 rfl rfl dX4_set_432 ?_
        refine r_iload_n hX dX4_set_435 rfl rfl ?_
        refine r_iald hX 17 0 rfl rfl (vp_in_nI (Nat.lt_of_lt_of_le hhi14 (by decide)) (by decide)) dX4_set_436 ?_
        refine r_iload hX dX4_set_437 rfl ?_
        refine r_iload_n hX dX4_set_439 rfl rfl ?_
        refine r_aload_n hX dX4_set_440 rfl rfl ?_
        refine r_get hX kf_X4_26 14 rfl rfl dX4_set_441 ?_
        refine r_iload_n hX dX4_set_444 rfl rfl ?_
        refine r_iald hX 20 0 rfl rfl (vp_in_nI (Nat.lt_of_lt_of_le hhi14 (by decide)) (by decide)) dX4_set_445 ?_
        refine r_callV hX (c_X4_put _ _ _ _ J11 _ (mWF2 eJ11 hJ) i14 (Nat.lt_of_lt_of_le hhi14 (by decide)) _ _ _ _ (mday (mWF2 eJ11 hJ) (Nat.lt_of_lt_of_le hhi14 (by decide)))) kv_X4_139 14 rfl rfl rfl rfl (Nat.le_of_ble_eq_true rfl) ⟨(Nat.le_of_ble_eq_true rfl), (Nat.le_of_ble_eq_true rfl)⟩ ⟨(Nat.le_of_ble_eq_true rfl), (Nat.le_of_ble_eq_true rfl)⟩ dX4_set_446 (fun _ _ z => False.elim z) (fun v9 ws9 h120 => ?_)
        obtain ⟨r122, J123, hJ123, oJ123, rfl, hw9⟩ := h120
        subst ws9
        dsimp only [mPush]
        refine r_goto (tgt := 456) hX dX4_set_449 (by decide) ?_
        refine r_eqw (mRw_app (rest := rest)).symm (r_drop ?_)
        exact r_iret hX hE dX4_set_456 (Nat.le_of_ble_eq_true rfl) (Nat.le_of_ble_eq_true rfl) ⟨_, J123, hJ123, (oJ123.trans ((congrArg Prod.fst eJ11).trans rfl)), rfl, rfl⟩
    · refine r_iconst (v := 0) hX dX4_set_28 (by decide) ?_
      exact r_iret hX hE dX4_set_29 (Nat.le_of_ble_eq_true rfl) (Nat.le_of_ble_eq_true rfl) ⟨_, J11, (mWF2 eJ11 hJ), ((congrArg Prod.fst eJ11).trans rfl), rfl, rfl⟩
  · refine r_iconst (v := 1) hX dX4_set_17 (by decide) ?_
    refine r_goto (tgt := 22) hX dX4_set_18 (by decide) ?_
    refine r_callV hX (c_X4_isStopped _ _ _ _ _ _ _ _) kv_X4_68 14 rfl rfl rfl rfl (Nat.le_of_ble_eq_true rfl) ⟨(Nat.le_of_ble_eq_true rfl), (Nat.le_of_ble_eq_true rfl)⟩ ⟨(Nat.le_of_ble_eq_true rfl), (Nat.le_of_ble_eq_true rfl)⟩ dX4_set_22 (fun _ _ z => False.elim z) (fun v9 ws9 h124 => ?_)
    obtain ⟨r126, J127, nr126, etJ127, erJ127, eJ127, rfl, hw9⟩ := h124
    subst ws9
    dsimp only [mPush]
    refine r_if_eq (tgt := 30) hX dX4_set_25 (by decide) (fun c128 => ?_) (fun c128 => ?_)
    · have hs129 := mnone0 nr126 (by first | exact c128 | exact Classical.not_not.mp c128)
      exact absurd hs129.2 (by decide)
    · refine r_iconst (v := 0) hX dX4_set_28 (by decide) ?_
      exact r_iret hX hE dX4_set_29 (Nat.le_of_ble_eq_true rfl) (Nat.le_of_ble_eq_true rfl) ⟨_, J127, (mWF2 eJ127 hJ), ((congrArg Prod.fst eJ127).trans rfl), rfl, rfl⟩
theorem dX4_told_0 : decode cX4_told 0 = .ok (.aload_n 0, 1) := by decide +kernel
theorem dX4_told_1 : decode cX4_told 1 = .ok (.getfield 20, 3) := by decide +kernel
theorem dX4_told_4 : decode cX4_told 4 = .ok (.iload_n 1, 1) := by decide +kernel
theorem dX4_told_5 : decode cX4_told 5 = .ok (.iaload, 1) := by decide +kernel
theorem dX4_told_6 : decode cX4_told 6 = .ok (.istore_n 3, 1) := by decide +kernel
theorem dX4_told_7 : decode cX4_told 7 = .ok (.iload_n 2, 1) := by decide +kernel
theorem dX4_told_8 : decode cX4_told 8 = .ok (.iconst 4, 1) := by decide +kernel
theorem dX4_told_9 : decode cX4_told 9 = .ok (.if_icmp .ge 15, 3) := by decide +kernel
theorem dX4_told_12 : decode cX4_told 12 = .ok (.aload_n 0, 1) := by decide +kernel
theorem dX4_told_13 : decode cX4_told 13 = .ok (.getfield 17, 3) := by decide +kernel
theorem dX4_told_16 : decode cX4_told 16 = .ok (.iload_n 1, 1) := by decide +kernel
theorem dX4_told_17 : decode cX4_told 17 = .ok (.iaload, 1) := by decide +kernel
theorem dX4_told_18 : decode cX4_told 18 = .ok (.invokestatic 170, 3) := by decide +kernel
theorem dX4_told_21 : decode cX4_told 21 = .ok (.iload_n 2, 1) := by decide +kernel
theorem dX4_told_22 : decode cX4_told 22 = .ok (.iaload, 1) := by decide +kernel
theorem dX4_told_23 : decode cX4_told 23 = .ok (.ireturn, 1) := by decide +kernel
theorem dX4_told_24 : decode cX4_told 24 = .ok (.iload_n 2, 1) := by decide +kernel
theorem dX4_told_25 : decode cX4_told 25 = .ok (.tableswitch 120 4 11 #[47, 53, 61, 66, 73, 93, 100, 113], 47) := by decide +kernel
theorem dX4_told_72 : decode cX4_told 72 = .ok (.iload_n 3, 1) := by decide +kernel
theorem dX4_told_73 : decode cX4_told 73 = .ok (.sipush 3600, 3) := by decide +kernel
theorem dX4_told_76 : decode cX4_told 76 = .ok (.idiv, 1) := by decide +kernel
theorem dX4_told_77 : decode cX4_told 77 = .ok (.ireturn, 1) := by decide +kernel
theorem dX4_told_78 : decode cX4_told 78 = .ok (.iload_n 3, 1) := by decide +kernel
theorem dX4_told_79 : decode cX4_told 79 = .ok (.bipush 60, 2) := by decide +kernel
theorem dX4_told_81 : decode cX4_told 81 = .ok (.idiv, 1) := by decide +kernel
theorem dX4_told_82 : decode cX4_told 82 = .ok (.bipush 60, 2) := by decide +kernel
theorem dX4_told_84 : decode cX4_told 84 = .ok (.irem, 1) := by decide +kernel
theorem dX4_told_85 : decode cX4_told 85 = .ok (.ireturn, 1) := by decide +kernel
theorem dX4_told_86 : decode cX4_told 86 = .ok (.iload_n 3, 1) := by decide +kernel
theorem dX4_told_87 : decode cX4_told 87 = .ok (.bipush 60, 2) := by decide +kernel
theorem dX4_told_89 : decode cX4_told 89 = .ok (.irem, 1) := by decide +kernel
theorem dX4_told_90 : decode cX4_told 90 = .ok (.ireturn, 1) := by decide +kernel
theorem dX4_told_91 : decode cX4_told 91 = .ok (.aload_n 0, 1) := by decide +kernel
theorem dX4_told_92 : decode cX4_told 92 = .ok (.getfield 23, 3) := by decide +kernel
theorem dX4_told_95 : decode cX4_told 95 = .ok (.iload_n 1, 1) := by decide +kernel
theorem dX4_told_96 : decode cX4_told 96 = .ok (.iaload, 1) := by decide +kernel
theorem dX4_told_97 : decode cX4_told 97 = .ok (.ireturn, 1) := by decide +kernel
theorem dX4_told_98 : decode cX4_told 98 = .ok (.aload_n 0, 1) := by decide +kernel
theorem dX4_told_99 : decode cX4_told 99 = .ok (.getfield 17, 3) := by decide +kernel
theorem dX4_told_102 : decode cX4_told 102 = .ok (.iload_n 1, 1) := by decide +kernel
theorem dX4_told_103 : decode cX4_told 103 = .ok (.iaload, 1) := by decide +kernel
theorem dX4_told_104 : decode cX4_told 104 = .ok (.i2l, 1) := by decide +kernel
theorem dX4_told_105 : decode cX4_told 105 = .ok (.ldc2_w 36, 3) := by decide +kernel
theorem dX4_told_108 : decode cX4_told 108 = .ok (.ladd, 1) := by decide +kernel
theorem dX4_told_109 : decode cX4_told 109 = .ok (.ldc2_w 183, 3) := by decide +kernel
theorem dX4_told_112 : decode cX4_told 112 = .ok (.invokestatic 102, 3) := by decide +kernel
theorem dX4_told_115 : decode cX4_told 115 = .ok (.iconst 1, 1) := by decide +kernel
theorem dX4_told_116 : decode cX4_told 116 = .ok (.iadd, 1) := by decide +kernel
theorem dX4_told_117 : decode cX4_told 117 = .ok (.ireturn, 1) := by decide +kernel
theorem dX4_told_118 : decode cX4_told 118 = .ok (.aload_n 0, 1) := by decide +kernel
theorem dX4_told_119 : decode cX4_told 119 = .ok (.getfield 26, 3) := by decide +kernel
theorem dX4_told_122 : decode cX4_told 122 = .ok (.iload_n 1, 1) := by decide +kernel
theorem dX4_told_123 : decode cX4_told 123 = .ok (.iaload, 1) := by decide +kernel
theorem dX4_told_124 : decode cX4_told 124 = .ok (.ireturn, 1) := by decide +kernel
theorem dX4_told_125 : decode cX4_told 125 = .ok (.aload_n 0, 1) := by decide +kernel
theorem dX4_told_126 : decode cX4_told 126 = .ok (.iload_n 1, 1) := by decide +kernel
theorem dX4_told_127 : decode cX4_told 127 = .ok (.invokevirtual 115, 3) := by decide +kernel
theorem dX4_told_130 : decode cX4_told 130 = .ok (.ldc2_w 96, 3) := by decide +kernel
theorem dX4_told_133 : decode cX4_told 133 = .ok (.invokestatic 92, 3) := by decide +kernel
theorem dX4_told_136 : decode cX4_told 136 = .ok (.l2i, 1) := by decide +kernel
theorem dX4_told_137 : decode cX4_told 137 = .ok (.ireturn, 1) := by decide +kernel
theorem dX4_told_138 : decode cX4_told 138 = .ok (.aload_n 0, 1) := by decide +kernel
theorem dX4_told_139 : decode cX4_told 139 = .ok (.getfield 17, 3) := by decide +kernel
theorem dX4_told_142 : decode cX4_told 142 = .ok (.iload_n 1, 1) := by decide +kernel
theorem dX4_told_143 : decode cX4_told 143 = .ok (.iaload, 1) := by decide +kernel
theorem dX4_told_144 : decode cX4_told 144 = .ok (.ireturn, 1) := by decide +kernel
theorem dX4_told_145 : decode cX4_told 145 = .ok (.iload_n 3, 1) := by decide +kernel
theorem dX4_told_146 : decode cX4_told 146 = .ok (.ireturn, 1) := by decide +kernel
set_option maxHeartbeats 4000000 in
set_option maxRecDepth 20000 in
theorem c_X4_told (ad ae : Nat → Nat) (cs : ClassId × ClassId × ClassId) (K : mK) (J : mJ) (rest : va_W) (hJ : mWF J) (j0 : Nat) (hj0 : j0 < 7) (j1 : Nat) (hj1 : j1 < 13) : mCt (mTy cs) yX4_told cX4_told 4 (some .int) ⟨5, 1, 4, 119⟩ [.ref (ae 0), .int (nI j0), .int (nI j1)] (mRw ad ae cs K J rest) (mZi ad ae cs K J rest) mNo := by
  refine mCt.of (by decide +kernel) (Nat.le_of_ble_eq_true rfl) (fun X hX hE => ?_)
  have hX : mOK X RX4 cX4_told 4 ⟨5, 1, 4, 119⟩ [] (mTy cs) := hX
  refine r_aload_n hX dX4_told_0 rfl rfl ?_
  refine r_get hX kf_X4_20 14 rfl rfl dX4_told_1 ?_
  refine r_iload_n hX dX4_told_4 rfl rfl ?_
  refine r_iald hX 18 0 rfl rfl (vp_in_nI hj0 (by decide)) dX4_told_5 ?_
  refine r_istore_n hX dX4_told_6 rfl (by decide) rfl ?_
  refine r_iload_n hX dX4_told_7 rfl rfl ?_
  refine r_iconst (v := 4) hX dX4_told_8 (by decide) ?_
  refine r_icmp_ge (tgt := 24) hX dX4_told_9 (by decide) (fun c1 => ?_) (fun c1 => ?_)
  · refine r_iload_n hX dX4_told_24 rfl rfl ?_
    by_cases s2 : (nI j1).toInt = 4
    · refine r_tableIn (off := 47) (tgt := 72) hX dX4_told_25 (by omega) (by omega) (by rw [s2]; rfl) (by decide) ?_
      refine r_iload_n hX dX4_told_72 rfl rfl ?_
      refine r_sipush (v := 3600) hX dX4_told_73 (by decide) ?_
      refine r_idiv hX dX4_told_76 (by first | decide | assumption) ?_
      exact r_iret hX hE dX4_told_77 (Nat.le_of_ble_eq_true rfl) (Nat.le_of_ble_eq_true rfl) ⟨_, J, hJ, rfl, rfl, rfl⟩
    by_cases s3 : (nI j1).toInt = 5
    · refine r_tableIn (off := 53) (tgt := 78) hX dX4_told_25 (by omega) (by omega) (by rw [s3]; rfl) (by decide) ?_
      refine r_iload_n hX dX4_told_78 rfl rfl ?_
      refine r_bipush (v := 60) hX dX4_told_79 (by decide) ?_
      refine r_idiv hX dX4_told_81 (by first | decide | assumption) ?_
      refine r_bipush (v := 60) hX dX4_told_82 (by decide) ?_
      refine r_irem hX dX4_told_84 (by first | decide | assumption) ?_
      exact r_iret hX hE dX4_told_85 (Nat.le_of_ble_eq_true rfl) (Nat.le_of_ble_eq_true rfl) ⟨_, J, hJ, rfl, rfl, rfl⟩
    by_cases s4 : (nI j1).toInt = 6
    · refine r_tableIn (off := 61) (tgt := 86) hX dX4_told_25 (by omega) (by omega) (by rw [s4]; rfl) (by decide) ?_
      refine r_iload_n hX dX4_told_86 rfl rfl ?_
      refine r_bipush (v := 60) hX dX4_told_87 (by decide) ?_
      refine r_irem hX dX4_told_89 (by first | decide | assumption) ?_
      exact r_iret hX hE dX4_told_90 (Nat.le_of_ble_eq_true rfl) (Nat.le_of_ble_eq_true rfl) ⟨_, J, hJ, rfl, rfl, rfl⟩
    by_cases s5 : (nI j1).toInt = 7
    · refine r_tableIn (off := 66) (tgt := 91) hX dX4_told_25 (by omega) (by omega) (by rw [s5]; rfl) (by decide) ?_
      refine r_aload_n hX dX4_told_91 rfl rfl ?_
      refine r_get hX kf_X4_23 14 rfl rfl dX4_told_92 ?_
      refine r_iload_n hX dX4_told_95 rfl rfl ?_
      refine r_iald hX 19 0 rfl rfl (vp_in_nI hj0 (by decide)) dX4_told_96 ?_
      exact r_iret hX hE dX4_told_97 (Nat.le_of_ble_eq_true rfl) (Nat.le_of_ble_eq_true rfl) ⟨_, J, hJ, rfl, rfl, rfl⟩
    by_cases s6 : (nI j1).toInt = 8
    · refine r_tableIn (off := 73) (tgt := 98) hX dX4_told_25 (by omega) (by omega) (by rw [s6]; rfl) (by decide) ?_
      refine r_aload_n hX dX4_told_98 rfl rfl ?_
      refine r_get hX kf_X4_17 14 rfl rfl dX4_told_99 ?_
      refine r_iload_n hX dX4_told_102 rfl rfl ?_
      refine r_iald hX 17 0 rfl rfl (vp_in_nI hj0 (by decide)) dX4_told_103 ?_
      refine r_i2l hX dX4_told_104 ?_
      refine r_ldc2 hX kc_X4_36 dX4_told_105 ?_
      refine r_ladd hX dX4_told_108 ?_
      refine r_ldc2 hX kc_X4_183 dX4_told_109 ?_
      refine r_callS hX (c_X4_rest _ _ _ _ (by decide)) ks_X4_102 rfl rfl (Nat.le_of_ble_eq_true rfl) ⟨(Nat.le_of_ble_eq_true rfl), (Nat.le_of_ble_eq_true rfl)⟩ ⟨(Nat.le_of_ble_eq_true rfl), (Nat.le_of_ble_eq_true rfl)⟩ dX4_told_112 (fun _ _ z => False.elim z) (fun v9 ws9 h7 => ?_)
      obtain ⟨r9, rfl, hw9⟩ := h7
      subst ws9
      dsimp only [mPush]
      refine r_iconst (v := 1) hX dX4_told_115 (by decide) ?_
      refine r_iadd hX dX4_told_116 ?_
      exact r_iret hX hE dX4_told_117 (Nat.le_of_ble_eq_true rfl) (Nat.le_of_ble_eq_true rfl) ⟨_, J, hJ, rfl, rfl, rfl⟩
    by_cases s10 : (nI j1).toInt = 9
    · refine r_tableIn (off := 93) (tgt := 118) hX dX4_told_25 (by omega) (by omega) (by rw [s10]; rfl) (by decide) ?_
      refine r_aload_n hX dX4_told_118 rfl rfl ?_
      refine r_get hX kf_X4_26 14 rfl rfl dX4_told_119 ?_
      refine r_iload_n hX dX4_told_122 rfl rfl ?_
      refine r_iald hX 20 0 rfl rfl (vp_in_nI hj0 (by decide)) dX4_told_123 ?_
      exact r_iret hX hE dX4_told_124 (Nat.le_of_ble_eq_true rfl) (Nat.le_of_ble_eq_true rfl) ⟨_, J, hJ, rfl, rfl, rfl⟩
    by_cases s11 : (nI j1).toInt = 10
    · refine r_tableIn (off := 100) (tgt := 125) hX dX4_told_25 (by omega) (by omega) (by rw [s11]; rfl) (by decide) ?_
      refine r_aload_n hX dX4_told_125 rfl rfl ?_
      refine r_iload_n hX dX4_told_126 rfl rfl ?_
      refine r_callV hX (c_X4_number _ _ _ _ J _ hJ j0 hj0) kv_X4_115 14 rfl rfl rfl rfl (Nat.le_of_ble_eq_true rfl) ⟨(Nat.le_of_ble_eq_true rfl), (Nat.le_of_ble_eq_true rfl)⟩ ⟨(Nat.le_of_ble_eq_true rfl), (Nat.le_of_ble_eq_true rfl)⟩ dX4_told_127 (fun _ _ z => False.elim z) (fun v9 ws9 h12 => ?_)
      obtain ⟨r14, J15, hJ15, oJ15, rfl, hw9⟩ := h12
      subst ws9
      dsimp only [mPush]
      refine r_ldc2 hX kc_X4_96 dX4_told_130 ?_
      refine r_callS hX (c_X4_whole _ _ _ _ (by decide)) ks_X4_92 rfl rfl (Nat.le_of_ble_eq_true rfl) ⟨(Nat.le_of_ble_eq_true rfl), (Nat.le_of_ble_eq_true rfl)⟩ ⟨(Nat.le_of_ble_eq_true rfl), (Nat.le_of_ble_eq_true rfl)⟩ dX4_told_133 (fun _ _ z => False.elim z) (fun v9 ws9 h16 => ?_)
      obtain ⟨r18, rfl, hw9⟩ := h16
      subst ws9
      dsimp only [mPush]
      refine r_l2i hX dX4_told_136 ?_
      exact r_iret hX hE dX4_told_137 (Nat.le_of_ble_eq_true rfl) (Nat.le_of_ble_eq_true rfl) ⟨_, J15, hJ15, (oJ15.trans rfl), rfl, rfl⟩
    by_cases s19 : (nI j1).toInt = 11
    · refine r_tableIn (off := 113) (tgt := 138) hX dX4_told_25 (by omega) (by omega) (by rw [s19]; rfl) (by decide) ?_
      refine r_aload_n hX dX4_told_138 rfl rfl ?_
      refine r_get hX kf_X4_17 14 rfl rfl dX4_told_139 ?_
      refine r_iload_n hX dX4_told_142 rfl rfl ?_
      refine r_iald hX 17 0 rfl rfl (vp_in_nI hj0 (by decide)) dX4_told_143 ?_
      exact r_iret hX hE dX4_told_144 (Nat.le_of_ble_eq_true rfl) (Nat.le_of_ble_eq_true rfl) ⟨_, J, hJ, rfl, rfl, rfl⟩
    refine r_tableOut (tgt := 145) hX dX4_told_25 (by omega) (by decide) ?_
    refine r_iload_n hX dX4_told_145 rfl rfl ?_
    exact r_iret hX hE dX4_told_146 (Nat.le_of_ble_eq_true rfl) (Nat.le_of_ble_eq_true rfl) ⟨_, J, hJ, rfl, rfl, rfl⟩
  · have hb20 : j1 < 4 := mlt2 (by first | rfl | decide) (by decide) (by omega) c1
    refine r_aload_n hX dX4_told_12 rfl rfl ?_
    refine r_get hX kf_X4_17 14 rfl rfl dX4_told_13 ?_
    refine r_iload_n hX dX4_told_16 rfl rfl ?_
    refine r_iald hX 17 0 rfl rfl (vp_in_nI hj0 (by decide)) dX4_told_17 ?_
    obtain ⟨d21, ed21, ld21, ud21⟩ := (mday hJ hj0)
    rw [ed21]
    refine r_callS hX (c_X4_parts cs _ d21 ld21 ud21) ks_X4_170 rfl rfl (Nat.le_of_ble_eq_true rfl) ⟨(Nat.le_of_ble_eq_true rfl), (Nat.le_of_ble_eq_true rfl)⟩ ⟨(Nat.le_of_ble_eq_true rfl), (Nat.le_of_ble_eq_true rfl)⟩ dX4_told_18 (fun _ _ z => False.elim z) (fun v9 ws9 h22 => ?_)
    obtain ⟨y24, m25, dd26, f27, q28, hyy24, hyy242, hmm25, hmm252, hddd26, hddd262, hsf27, f0f27, f1f27, f2f27, rfl, hw9⟩ := h22
    subst ws9
    dsimp only [mPush]
    rw [mRw_app]
    have hdmdd26 := dm_b y24 m25
    refine r_iload_n hX dX4_told_21 rfl rfl ?_
    refine r_iald hX (rest.length + 21) 0 mLast rfl (vp_in_nI hb20 (by decide)) dX4_told_22 ?_
    refine r_eqw (mRw_app (rest := rest)).symm (r_drop ?_)
    exact r_iret hX hE dX4_told_23 (Nat.le_of_ble_eq_true rfl) (Nat.le_of_ble_eq_true rfl) ⟨_, J, hJ, rfl, rfl, rfl⟩
