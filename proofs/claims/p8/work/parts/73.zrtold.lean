/-! The reference, exact (rows by a program of this repository). -/
theorem day_inZ {y m : Nat} {e : Int} (h1 : 1910 ≤ y) (h2 : y ≤ 2030) (h3 : 1 ≤ m) (h4 : m ≤ 12) (h5 : 1 ≤ e) (h6 : e ≤ (dm y m : Nat)) : -21915 ≤ FO y + DB y m + e - 1 ∧ FO y + DB y m + e - 1 ≤ 22279 := by
  have := day_in (d := e.toNat) h1 h2 h3 h4 (by omega) (by omega)
  omega
theorem zMin_r (a b : Int) : zMin a b ≤ b := by unfold zMin; split <;> omega
theorem zlo_own {S : mS} {k : Nat} {z n o : Int} : sow (sLo S k (z, n, o)) k = o := by
  show (zup S.2.2.1 k (z, n, o) k).2.2 = o
  rw [zup_eq]
theorem zdp_cp {s n o w : Int} (h : 0 ≤ w ∧ w < 4) : zDP s n o (4 + w) = zCP s n o w := by
  rcases (show w = 0 ∨ w = 1 ∨ w = 2 ∨ w = 3 by omega) with rfl | rfl | rfl | rfl <;> rfl
set_option maxHeartbeats 4000000 in
set_option maxRecDepth 20000 in
theorem z_X4_moveMonths (ad ae : Nat → Nat) (cs : ClassId × ClassId × ClassId) (K : mK) (S : mS) (th : Int32) (rest : va_W) (hS : sWF S) (i : Int) (j : Nat) (hij : i = (j : Int)) (hj : j < 4) (months : Int) (hm : -100000000000 ≤ months ∧ months ≤ 100000000000)  : mCt (mTy cs) yX4_moveMonths cX4_moveMonths 9 (some .int) ⟨5, 1, 4, 119⟩ [.ref (ae 0), .int (iZ i), .long (lZ months)] (mRw ad ae cs K (mJof S th) rest) (fun v ws' => v = some (.int (iZ (oMon S j (12 * (YR (sse S j / 86400) : Nat) + (MO (sse S j / 86400) : Nat) - 1 + months)).1)) ∧ ws' = mRw ad ae cs K (mJof (oMon S j (12 * (YR (sse S j / 86400) : Nat) + (MO (sse S j / 86400) : Nat) - 1 + months)).2 th) rest) mNo := by
  refine mCt.of (by decide +kernel) (Nat.le_of_ble_eq_true rfl) (fun X hX hE => ?_)
  replace hX : mOK X RX4 cX4_moveMonths 9 ⟨5, 1, 4, 119⟩ [] (mTy cs) := hX
  have hr := zrg hS (d := j) (by omega)
  have hse := hS.2.2.2.1 j hj
  have hsd : -21915 ≤ sse S j / 86400 ∧ sse S j / 86400 ≤ 22279 := by omega
  have hyr := YR_spec hsd.1 hsd.2
  have hmo := MO_b (sse S j / 86400)
  have hdom := DOM_b hsd.1 hsd.2
  have hdmb := dm_b (YR (sse S j / 86400)) (MO (sse S j / 86400))
  refine r_aload_n hX dX4_moveMonths_0 rfl rfl ?_
  refine r_get hX kf_X4_17 14 rfl rfl dX4_moveMonths_1 ?_
  refine r_iload_n hX dX4_moveMonths_4 rfl rfl ?_
  refine r_ialdZ hX 17 0 rfl rfl j (by omega) (by omega) (by decide) dX4_moveMonths_5 ?_
  refine r_callS hX (z_X4_parts _ _ _ (by omega)) ks_X4_170 rfl rfl (Nat.le_of_ble_eq_true rfl) ⟨(Nat.le_of_ble_eq_true rfl), (Nat.le_of_ble_eq_true rfl)⟩ ⟨(Nat.le_of_ble_eq_true rfl), (Nat.le_of_ble_eq_true rfl)⟩ dX4_moveMonths_6 (fun _ _ z => False.elim z) (fun v9 ws9 h1 => ?_)
  obtain ⟨f2, q3, hf4, rfl, hw9⟩ := h1
  subst ws9
  dsimp only [mPush]
  refine r_eqw mRw_app ?_
  refine r_astore hX dX4_moveMonths_9 (by decide) rfl ?_
  refine r_ldc2Z (z := 12) hX kc_X4_151 (by decide) dX4_moveMonths_11 ?_
  refine r_aload hX dX4_moveMonths_14 rfl ?_
  refine r_iconstZ hX dX4_moveMonths_16 ?_
  refine r_ialdZ hX (21 + (rest).length) 0 zRw_last rfl 0 (by decide) (by decide) (by decide) dX4_moveMonths_17 ?_
  rw [hf4.1]
  refine r_i2lZ hX dX4_moveMonths_18 (by omega) ?_
  refine r_lmulZ hX dX4_moveMonths_19 ?_
  refine r_aload hX dX4_moveMonths_20 rfl ?_
  refine r_iconstZ hX dX4_moveMonths_22 ?_
  refine r_ialdZ hX (21 + (rest).length) 0 zRw_last rfl 1 (by decide) (by decide) (by decide) dX4_moveMonths_23 ?_
  rw [hf4.2.1]
  refine r_i2lZ hX dX4_moveMonths_24 (by omega) ?_
  refine r_laddZ hX dX4_moveMonths_25 ?_
  refine r_lconstZ (v := 1) hX dX4_moveMonths_26 rfl ?_
  refine r_lsubZ hX dX4_moveMonths_27 ?_
  refine r_lload_n hX dX4_moveMonths_28 rfl rfl ?_
  refine r_laddZ hX dX4_moveMonths_29 ?_
  refine r_lstore hX dX4_moveMonths_30 (by decide) rfl ?_
  refine r_lload hX dX4_moveMonths_32 rfl ?_
  refine r_ldc2Z (z := 12) hX kc_X4_151 (by decide) dX4_moveMonths_34 ?_
  refine r_callS hX (c_X4_whole_x _ _ _ _ (by omega) (by omega) (by omega) (by omega)) ks_X4_92 rfl rfl (Nat.le_of_ble_eq_true rfl) ⟨(Nat.le_of_ble_eq_true rfl), (Nat.le_of_ble_eq_true rfl)⟩ ⟨(Nat.le_of_ble_eq_true rfl), (Nat.le_of_ble_eq_true rfl)⟩ dX4_moveMonths_37 (fun _ _ z => False.elim z) (fun v9 ws9 h5 => ?_)
  obtain ⟨rfl, hw9⟩ := h5
  subst ws9
  dsimp only [mPush]
  refine r_lstore hX dX4_moveMonths_40 (by decide) rfl ?_
  refine r_lload hX dX4_moveMonths_42 rfl ?_
  refine r_ldc2Z (z := 1910) hX kc_X4_147 (by decide) dX4_moveMonths_44 ?_
  refine r_ldc2Z (z := 2030) hX kc_X4_149 (by decide) dX4_moveMonths_47 ?_
  refine r_callS hX (z_X4_isIn _ _ _ _ _ (by omega) (by omega) (by omega)) ks_X4_38 rfl rfl (Nat.le_of_ble_eq_true rfl) ⟨(Nat.le_of_ble_eq_true rfl), (Nat.le_of_ble_eq_true rfl)⟩ ⟨(Nat.le_of_ble_eq_true rfl), (Nat.le_of_ble_eq_true rfl)⟩ dX4_moveMonths_50 (fun _ _ z => False.elim z) (fun v9 ws9 h6 => ?_)
  obtain ⟨rfl, hw9⟩ := h6
  subst ws9
  dsimp only [mPush]
  refine r_if_neB (tgt := 61) hX dX4_moveMonths_53 (by decide) (fun c7 => ?_) (fun c7 => ?_)
  · have c7 := of_decide_eq_true c7
    refine r_aload_n hX dX4_moveMonths_61 rfl rfl ?_
    refine r_iload_n hX dX4_moveMonths_62 rfl rfl ?_
    refine r_lload hX dX4_moveMonths_63 rfl ?_
    refine r_l2iZ hX dX4_moveMonths_65 ?_
    refine r_lload hX dX4_moveMonths_66 rfl ?_
    refine r_ldc2Z (z := 12) hX kc_X4_151 (by decide) dX4_moveMonths_68 ?_
    refine r_callS hX (c_X4_rest_x _ _ _ _ (by omega) (by omega) (by omega) (by omega)) ks_X4_102 rfl rfl (Nat.le_of_ble_eq_true rfl) ⟨(Nat.le_of_ble_eq_true rfl), (Nat.le_of_ble_eq_true rfl)⟩ ⟨(Nat.le_of_ble_eq_true rfl), (Nat.le_of_ble_eq_true rfl)⟩ dX4_moveMonths_71 (fun _ _ z => False.elim z) (fun v9 ws9 h8 => ?_)
    obtain ⟨rfl, hw9⟩ := h8
    subst ws9
    dsimp only [mPush]
    refine r_iconstZ hX dX4_moveMonths_74 ?_
    refine r_iaddZ hX dX4_moveMonths_75 ?_
    refine r_aload hX dX4_moveMonths_76 rfl ?_
    refine r_iconstZ hX dX4_moveMonths_78 ?_
    refine r_ialdZ hX (21 + (rest).length) 0 zRw_last rfl 2 (by decide) (by decide) (by decide) dX4_moveMonths_79 ?_
    rw [hf4.2.2.1]
    refine r_callV hX (z_X4_putDay ad ae cs K S th (rest ++ [(q3, .inl (cs.1, 4, .inl f2))]) hS _ j (by omega) (by omega) _ ((((((12 * (YR (sse S j / 86400) : Nat)) + (MO (sse S j / 86400) : Nat)) - 1) + months) / 12)).toNat (by omega) (by omega) _ ((((((12 * (YR (sse S j / 86400) : Nat)) + (MO (sse S j / 86400) : Nat)) - 1) + months) % 12) + 1).toNat (by omega) (by omega) _ (by omega)) kv_X4_174 14 rfl rfl rfl rfl (Nat.le_of_ble_eq_true rfl) ⟨(Nat.le_of_ble_eq_true rfl), (Nat.le_of_ble_eq_true rfl)⟩ ⟨(Nat.le_of_ble_eq_true rfl), (Nat.le_of_ble_eq_true rfl)⟩ dX4_moveMonths_80 (fun _ _ z => False.elim z) (fun v9 ws9 h9 => ?_)
    obtain ⟨rfl, hw9⟩ := h9
    subst ws9
    dsimp only [mPush]
    refine r_eqw (mRw_app (rest := rest)).symm (r_drop ?_)
    refine r_iret hX hE dX4_moveMonths_83 (Nat.le_of_ble_eq_true rfl) (Nat.le_of_ble_eq_true rfl) ?_
    have hdmq := dm_b ((((((12 * (YR (sse S j / 86400) : Nat)) + (MO (sse S j / 86400) : Nat)) - 1) + months) / 12)).toNat ((((((12 * (YR (sse S j / 86400) : Nat)) + (MO (sse S j / 86400) : Nat)) - 1) + months) % 12) + 1).toNat
    have hin := day_inZ (y := ((((((12 * (YR (sse S j / 86400) : Nat)) + (MO (sse S j / 86400) : Nat)) - 1) + months) / 12)).toNat) (m := ((((((12 * (YR (sse S j / 86400) : Nat)) + (MO (sse S j / 86400) : Nat)) - 1) + months) % 12) + 1).toNat) (e := zMin (DOM (sse S j / 86400)) (dm ((((((12 * (YR (sse S j / 86400) : Nat)) + (MO (sse S j / 86400) : Nat)) - 1) + months) / 12)).toNat ((((((12 * (YR (sse S j / 86400) : Nat)) + (MO (sse S j / 86400) : Nat)) - 1) + months) % 12) + 1).toNat : Nat)) (by omega) (by omega) (by omega) (by omega) (by unfold zMin; split <;> omega) (zMin_r _ _)
    unfold oMon
    rw [if_pos (by omega), oLoc_y (by omega)]
    exact ⟨zi (by omega), rfl⟩
  · have c7 := of_decide_eq_false c7
    refine r_aload_n hX dX4_moveMonths_56 rfl rfl ?_
    refine r_callV hX (z_X4_no ad ae cs K S th (rest ++ [(q3, .inl (cs.1, 4, .inl f2))])) kv_X4_80 14 rfl rfl rfl rfl (Nat.le_of_ble_eq_true rfl) ⟨(Nat.le_of_ble_eq_true rfl), (Nat.le_of_ble_eq_true rfl)⟩ ⟨(Nat.le_of_ble_eq_true rfl), (Nat.le_of_ble_eq_true rfl)⟩ dX4_moveMonths_57 (fun _ _ z => False.elim z) (fun v9 ws9 h10 => ?_)
    obtain ⟨rfl, hw9⟩ := h10
    subst ws9
    dsimp only [mPush]
    refine r_eqw (mRw_app (rest := rest)).symm (r_drop ?_)
    refine r_iret hX hE dX4_moveMonths_60 (Nat.le_of_ble_eq_true rfl) (Nat.le_of_ble_eq_true rfl) ?_
    unfold oMon
    rw [if_neg (by omega)]
    exact ⟨rfl, rfl⟩
def zSf (u : Int) : Int := if u = 4 then 3600 else if u = 5 then 60 else if u = 6 then 1 else 0
theorem zSf_m {u b : Int} (hb : -2147483648 ≤ b ∧ b ≤ 2147483648) : -10000000000000 ≤ b * zSf u ∧ b * zSf u ≤ 10000000000000 := by
  unfold zSf
  repeat' split
  all_goals omega
set_option maxHeartbeats 4000000 in
set_option maxRecDepth 20000 in
theorem z_X4_secondsOf (tys : List (ClassId × FieldType)) (ws : va_W) (u : Int) (hu : rJ u)  : mCt tys yX4_secondsOf cX4_secondsOf 1 (some .int) ⟨1, 0, 0, 20⟩ [.int (iZ u)] ws (fun v ws' => v = some (.int (iZ (zSf u))) ∧ ws' = ws) mNo := by
  refine mCt.of (by decide +kernel) (Nat.le_of_ble_eq_true rfl) (fun X hX hE => ?_)
  replace hX : mOK X RX4 cX4_secondsOf 1 ⟨1, 0, 0, 20⟩ [] tys := hX
  refine r_iload_n hX dX4_secondsOf_0 rfl rfl ?_
  refine r_iconstZ hX dX4_secondsOf_1 ?_
  refine r_icmp_neZ (tgt := 11) hX dX4_secondsOf_2 (by decide) (by omega) (by decide) (fun c1 => ?_) (fun c1 => ?_)
  · refine r_iload_n hX dX4_secondsOf_11 rfl rfl ?_
    refine r_iconstZ hX dX4_secondsOf_12 ?_
    refine r_icmp_neZ (tgt := 21) hX dX4_secondsOf_13 (by decide) (by omega) (by decide) (fun c2 => ?_) (fun c2 => ?_)
    · refine r_iload_n hX dX4_secondsOf_21 rfl rfl ?_
      refine r_bipushZ hX dX4_secondsOf_22 (by decide) ?_
      refine r_icmp_neZ (tgt := 31) hX dX4_secondsOf_24 (by decide) (by omega) (by decide) (fun c3 => ?_) (fun c3 => ?_)
      · refine r_iconstZ hX dX4_secondsOf_31 ?_
        refine r_callS hX (z_X4_one _ _ _ (by omega)) ks_X4_84 rfl rfl (Nat.le_of_ble_eq_true rfl) ⟨(Nat.le_of_ble_eq_true rfl), (Nat.le_of_ble_eq_true rfl)⟩ ⟨(Nat.le_of_ble_eq_true rfl), (Nat.le_of_ble_eq_true rfl)⟩ dX4_secondsOf_32 (fun _ _ z => False.elim z) (fun v9 ws9 h4 => ?_)
        obtain ⟨rfl, hw9⟩ := h4
        subst ws9
        dsimp only [mPush]
        refine r_iret hX hE dX4_secondsOf_35 (Nat.le_of_ble_eq_true rfl) (Nat.le_of_ble_eq_true rfl) ⟨zi ?_, rfl⟩
        unfold zSf
        repeat' split
        all_goals omega
      · refine r_iconstZ hX dX4_secondsOf_27 ?_
        refine r_goto (tgt := 32) hX dX4_secondsOf_28 (by decide) ?_
        refine r_callS hX (z_X4_one _ _ _ (by omega)) ks_X4_84 rfl rfl (Nat.le_of_ble_eq_true rfl) ⟨(Nat.le_of_ble_eq_true rfl), (Nat.le_of_ble_eq_true rfl)⟩ ⟨(Nat.le_of_ble_eq_true rfl), (Nat.le_of_ble_eq_true rfl)⟩ dX4_secondsOf_32 (fun _ _ z => False.elim z) (fun v9 ws9 h5 => ?_)
        obtain ⟨rfl, hw9⟩ := h5
        subst ws9
        dsimp only [mPush]
        refine r_iret hX hE dX4_secondsOf_35 (Nat.le_of_ble_eq_true rfl) (Nat.le_of_ble_eq_true rfl) ⟨zi ?_, rfl⟩
        unfold zSf
        repeat' split
        all_goals omega
    · refine r_bipushZ hX dX4_secondsOf_16 (by decide) ?_
      refine r_goto (tgt := 35) hX dX4_secondsOf_18 (by decide) ?_
      refine r_iret hX hE dX4_secondsOf_35 (Nat.le_of_ble_eq_true rfl) (Nat.le_of_ble_eq_true rfl) ⟨zi ?_, rfl⟩
      unfold zSf
      repeat' split
      all_goals omega
  · refine r_sipushZ hX dX4_secondsOf_5 (by decide) ?_
    refine r_goto (tgt := 35) hX dX4_secondsOf_8 (by decide) ?_
    refine r_iret hX hE dX4_secondsOf_35 (Nat.le_of_ble_eq_true rfl) (Nat.le_of_ble_eq_true rfl) ⟨zi ?_, rfl⟩
    unfold zSf
    repeat' split
    all_goals omega
set_option maxHeartbeats 4000000 in
set_option maxRecDepth 20000 in
theorem z_X4_told (ad ae : Nat → Nat) (cs : ClassId × ClassId × ClassId) (K : mK) (S : mS) (th : Int32) (rest : va_W) (hS : sWF S) (i : Int) (j : Nat) (hij : i = (j : Int)) (hj : j < 7) (w : Int) (hw : 0 ≤ w ∧ w ≤ 12)  : mCt (mTy cs) yX4_told cX4_told 4 (some .int) ⟨5, 1, 4, 119⟩ [.ref (ae 0), .int (iZ i), .int (iZ w)] (mRw ad ae cs K (mJof S th) rest) (fun v ws' => v = some (.int (iZ (zDP (sse S j) (sna S j) (sow S j) w))) ∧ ws' = (mRw ad ae cs K (mJof S th) rest)) mNo := by
  refine mCt.of (by decide +kernel) (Nat.le_of_ble_eq_true rfl) (fun X hX hE => ?_)
  replace hX : mOK X RX4 cX4_told 4 ⟨5, 1, 4, 119⟩ [] (mTy cs) := hX
  have hr := zrg hS (d := j) (by omega)
  have hse7 := hS.se hj
  have hsd : -21915 ≤ sse S j / 86400 ∧ sse S j / 86400 ≤ 22279 := by omega
  refine r_aload_n hX dX4_told_0 rfl rfl ?_
  refine r_get hX kf_X4_20 14 rfl rfl dX4_told_1 ?_
  refine r_iload_n hX dX4_told_4 rfl rfl ?_
  refine r_ialdZ hX 18 0 rfl rfl j (by omega) (by omega) (by decide) dX4_told_5 ?_
  refine r_istore_n hX dX4_told_6 rfl (by decide) rfl ?_
  refine r_iload_n hX dX4_told_7 rfl rfl ?_
  refine r_iconstZ hX dX4_told_8 ?_
  refine r_icmp_geZ (tgt := 24) hX dX4_told_9 (by decide) (by omega) (by decide) (fun c1 => ?_) (fun c1 => ?_)
  · refine r_iload_n hX dX4_told_24 rfl rfl ?_
    by_cases s2 : w = 4
    · refine r_tableInZ (z := 4) (off := 47) (tgt := 72) hX dX4_told_25 s2 (by decide) (by decide) (by decide) rfl (by decide) ?_
      refine r_iload_n hX dX4_told_72 rfl rfl ?_
      refine r_sipushZ hX dX4_told_73 (by decide) ?_
      refine r_idivZ hX dX4_told_76 (by omega) (by decide) ?_
      refine r_iret hX hE dX4_told_77 (Nat.le_of_ble_eq_true rfl) (Nat.le_of_ble_eq_true rfl) ⟨zi ?_, rfl⟩
      unfold zDP
      rw [if_neg (by omega)]
      rw [if_neg (by omega)]
      rw [if_neg (by omega)]
      rw [if_neg (by omega)]
      rw [if_pos (by omega)]
      all_goals omega
    by_cases s3 : w = 5
    · refine r_tableInZ (z := 5) (off := 53) (tgt := 78) hX dX4_told_25 s3 (by decide) (by decide) (by decide) rfl (by decide) ?_
      refine r_iload_n hX dX4_told_78 rfl rfl ?_
      refine r_bipushZ hX dX4_told_79 (by decide) ?_
      refine r_idivZ hX dX4_told_81 (by omega) (by decide) ?_
      refine r_bipushZ hX dX4_told_82 (by decide) ?_
      refine r_iremZ hX dX4_told_84 (by omega) (by decide) ?_
      refine r_iret hX hE dX4_told_85 (Nat.le_of_ble_eq_true rfl) (Nat.le_of_ble_eq_true rfl) ⟨zi ?_, rfl⟩
      unfold zDP
      rw [if_neg (by omega)]
      rw [if_neg (by omega)]
      rw [if_neg (by omega)]
      rw [if_neg (by omega)]
      rw [if_neg (by omega)]
      rw [if_pos (by omega)]
      all_goals omega
    by_cases s4 : w = 6
    · refine r_tableInZ (z := 6) (off := 61) (tgt := 86) hX dX4_told_25 s4 (by decide) (by decide) (by decide) rfl (by decide) ?_
      refine r_iload_n hX dX4_told_86 rfl rfl ?_
      refine r_bipushZ hX dX4_told_87 (by decide) ?_
      refine r_iremZ hX dX4_told_89 (by omega) (by decide) ?_
      refine r_iret hX hE dX4_told_90 (Nat.le_of_ble_eq_true rfl) (Nat.le_of_ble_eq_true rfl) ⟨zi ?_, rfl⟩
      unfold zDP
      rw [if_neg (by omega)]
      rw [if_neg (by omega)]
      rw [if_neg (by omega)]
      rw [if_neg (by omega)]
      rw [if_neg (by omega)]
      rw [if_neg (by omega)]
      rw [if_pos (by omega)]
      all_goals omega
    by_cases s5 : w = 7
    · refine r_tableInZ (z := 7) (off := 66) (tgt := 91) hX dX4_told_25 s5 (by decide) (by decide) (by decide) rfl (by decide) ?_
      refine r_aload_n hX dX4_told_91 rfl rfl ?_
      refine r_get hX kf_X4_23 14 rfl rfl dX4_told_92 ?_
      refine r_iload_n hX dX4_told_95 rfl rfl ?_
      refine r_ialdZ hX 19 0 rfl rfl j (by omega) (by omega) (by decide) dX4_told_96 ?_
      refine r_iret hX hE dX4_told_97 (Nat.le_of_ble_eq_true rfl) (Nat.le_of_ble_eq_true rfl) ⟨zi ?_, rfl⟩
      unfold zDP
      rw [if_neg (by omega)]
      rw [if_neg (by omega)]
      rw [if_neg (by omega)]
      rw [if_neg (by omega)]
      rw [if_neg (by omega)]
      rw [if_neg (by omega)]
      rw [if_neg (by omega)]
      rw [if_pos (by omega)]
      all_goals omega
    by_cases s6 : w = 8
    · refine r_tableInZ (z := 8) (off := 73) (tgt := 98) hX dX4_told_25 s6 (by decide) (by decide) (by decide) rfl (by decide) ?_
      refine r_aload_n hX dX4_told_98 rfl rfl ?_
      refine r_get hX kf_X4_17 14 rfl rfl dX4_told_99 ?_
      refine r_iload_n hX dX4_told_102 rfl rfl ?_
      refine r_ialdZ hX 17 0 rfl rfl j (by omega) (by omega) (by decide) dX4_told_103 ?_
      refine r_i2lZ hX dX4_told_104 (by omega) ?_
      refine r_ldc2Z (z := 3) hX kc_X4_36 (by decide) dX4_told_105 ?_
      refine r_laddZ hX dX4_told_108 ?_
      refine r_ldc2Z (z := 7) hX kc_X4_183 (by decide) dX4_told_109 ?_
      refine r_callS hX (c_X4_rest_x _ _ _ _ (by omega) (by omega) (by omega) (by omega)) ks_X4_102 rfl rfl (Nat.le_of_ble_eq_true rfl) ⟨(Nat.le_of_ble_eq_true rfl), (Nat.le_of_ble_eq_true rfl)⟩ ⟨(Nat.le_of_ble_eq_true rfl), (Nat.le_of_ble_eq_true rfl)⟩ dX4_told_112 (fun _ _ z => False.elim z) (fun v9 ws9 h7 => ?_)
      obtain ⟨rfl, hw9⟩ := h7
      subst ws9
      dsimp only [mPush]
      refine r_iconstZ hX dX4_told_115 ?_
      refine r_iaddZ hX dX4_told_116 ?_
      refine r_iret hX hE dX4_told_117 (Nat.le_of_ble_eq_true rfl) (Nat.le_of_ble_eq_true rfl) ⟨zi ?_, rfl⟩
      unfold zDP
      rw [if_neg (by omega)]
      rw [if_neg (by omega)]
      rw [if_neg (by omega)]
      rw [if_neg (by omega)]
      rw [if_neg (by omega)]
      rw [if_neg (by omega)]
      rw [if_neg (by omega)]
      rw [if_neg (by omega)]
      rw [if_pos (by omega)]
      all_goals omega
    by_cases s8 : w = 9
    · refine r_tableInZ (z := 9) (off := 93) (tgt := 118) hX dX4_told_25 s8 (by decide) (by decide) (by decide) rfl (by decide) ?_
      refine r_aload_n hX dX4_told_118 rfl rfl ?_
      refine r_get hX kf_X4_26 14 rfl rfl dX4_told_119 ?_
      refine r_iload_n hX dX4_told_122 rfl rfl ?_
      refine r_ialdZ hX 20 0 rfl rfl j (by omega) (by omega) (by decide) dX4_told_123 ?_
      refine r_iret hX hE dX4_told_124 (Nat.le_of_ble_eq_true rfl) (Nat.le_of_ble_eq_true rfl) ⟨zi ?_, rfl⟩
      unfold zDP
      rw [if_neg (by omega)]
      rw [if_neg (by omega)]
      rw [if_neg (by omega)]
      rw [if_neg (by omega)]
      rw [if_neg (by omega)]
      rw [if_neg (by omega)]
      rw [if_neg (by omega)]
      rw [if_neg (by omega)]
      rw [if_neg (by omega)]
      rw [if_pos (by omega)]
      all_goals omega
    by_cases s9 : w = 10
    · refine r_tableInZ (z := 10) (off := 100) (tgt := 125) hX dX4_told_25 s9 (by decide) (by decide) (by decide) rfl (by decide) ?_
      refine r_aload_n hX dX4_told_125 rfl rfl ?_
      refine r_iload_n hX dX4_told_126 rfl rfl ?_
      refine r_callV hX (z_X4_number ad ae cs K S th rest hS _ j (by omega) (by omega)) kv_X4_115 14 rfl rfl rfl rfl (Nat.le_of_ble_eq_true rfl) ⟨(Nat.le_of_ble_eq_true rfl), (Nat.le_of_ble_eq_true rfl)⟩ ⟨(Nat.le_of_ble_eq_true rfl), (Nat.le_of_ble_eq_true rfl)⟩ dX4_told_127 (fun _ _ z => False.elim z) (fun v9 ws9 h10 => ?_)
      obtain ⟨rfl, hw9⟩ := h10
      subst ws9
      dsimp only [mPush]
      refine r_ldc2Z (z := 1000000000) hX kc_X4_96 (by decide) dX4_told_130 ?_
      refine r_callS hX (c_X4_whole_x _ _ _ _ (by omega) (by omega) (by omega) (by omega)) ks_X4_92 rfl rfl (Nat.le_of_ble_eq_true rfl) ⟨(Nat.le_of_ble_eq_true rfl), (Nat.le_of_ble_eq_true rfl)⟩ ⟨(Nat.le_of_ble_eq_true rfl), (Nat.le_of_ble_eq_true rfl)⟩ dX4_told_133 (fun _ _ z => False.elim z) (fun v9 ws9 h11 => ?_)
      obtain ⟨rfl, hw9⟩ := h11
      subst ws9
      dsimp only [mPush]
      refine r_l2iZ hX dX4_told_136 ?_
      refine r_iret hX hE dX4_told_137 (Nat.le_of_ble_eq_true rfl) (Nat.le_of_ble_eq_true rfl) ⟨zi ?_, rfl⟩
      unfold zDP
      rw [if_neg (by omega)]
      rw [if_neg (by omega)]
      rw [if_neg (by omega)]
      rw [if_neg (by omega)]
      rw [if_neg (by omega)]
      rw [if_neg (by omega)]
      rw [if_neg (by omega)]
      rw [if_neg (by omega)]
      rw [if_neg (by omega)]
      rw [if_neg (by omega)]
      rw [if_pos (by omega)]
      all_goals omega
    by_cases s12 : w = 11
    · refine r_tableInZ (z := 11) (off := 113) (tgt := 138) hX dX4_told_25 s12 (by decide) (by decide) (by decide) rfl (by decide) ?_
      refine r_aload_n hX dX4_told_138 rfl rfl ?_
      refine r_get hX kf_X4_17 14 rfl rfl dX4_told_139 ?_
      refine r_iload_n hX dX4_told_142 rfl rfl ?_
      refine r_ialdZ hX 17 0 rfl rfl j (by omega) (by omega) (by decide) dX4_told_143 ?_
      refine r_iret hX hE dX4_told_144 (Nat.le_of_ble_eq_true rfl) (Nat.le_of_ble_eq_true rfl) ⟨zi ?_, rfl⟩
      unfold zDP
      rw [if_neg (by omega)]
      rw [if_neg (by omega)]
      rw [if_neg (by omega)]
      rw [if_neg (by omega)]
      rw [if_neg (by omega)]
      rw [if_neg (by omega)]
      rw [if_neg (by omega)]
      rw [if_neg (by omega)]
      rw [if_neg (by omega)]
      rw [if_neg (by omega)]
      rw [if_neg (by omega)]
      rw [if_pos (by omega)]
      all_goals omega
    refine r_tableOutZ (tgt := 145) hX dX4_told_25 (by omega) (by omega) (by decide) ?_
    refine r_iload_n hX dX4_told_145 rfl rfl ?_
    refine r_iret hX hE dX4_told_146 (Nat.le_of_ble_eq_true rfl) (Nat.le_of_ble_eq_true rfl) ⟨zi ?_, rfl⟩
    unfold zDP
    rw [if_neg (by omega)]
    rw [if_neg (by omega)]
    rw [if_neg (by omega)]
    rw [if_neg (by omega)]
    rw [if_neg (by omega)]
    rw [if_neg (by omega)]
    rw [if_neg (by omega)]
    rw [if_neg (by omega)]
    rw [if_neg (by omega)]
    rw [if_neg (by omega)]
    rw [if_neg (by omega)]
    rw [if_neg (by omega)]
    all_goals omega
  · refine r_aload_n hX dX4_told_12 rfl rfl ?_
    refine r_get hX kf_X4_17 14 rfl rfl dX4_told_13 ?_
    refine r_iload_n hX dX4_told_16 rfl rfl ?_
    refine r_ialdZ hX 17 0 rfl rfl j (by omega) (by omega) (by decide) dX4_told_17 ?_
    refine r_callS hX (z_X4_parts _ _ _ (by omega)) ks_X4_170 rfl rfl (Nat.le_of_ble_eq_true rfl) ⟨(Nat.le_of_ble_eq_true rfl), (Nat.le_of_ble_eq_true rfl)⟩ ⟨(Nat.le_of_ble_eq_true rfl), (Nat.le_of_ble_eq_true rfl)⟩ dX4_told_18 (fun _ _ z => False.elim z) (fun v9 ws9 h13 => ?_)
    obtain ⟨f14, q15, hf16, rfl, hw9⟩ := h13
    subst ws9
    dsimp only [mPush]
    refine r_eqw mRw_app ?_
    refine r_iload_n hX dX4_told_21 rfl rfl ?_
    refine r_ialdZ hX (21 + (rest).length) 0 zRw_last rfl (w).toNat (by omega) (by omega) (by decide) dX4_told_22 ?_
    refine r_eqw (mRw_app (rest := rest)).symm (r_drop ?_)
    refine r_iret hX hE dX4_told_23 (Nat.le_of_ble_eq_true rfl) (Nat.le_of_ble_eq_true rfl) ⟨?_, rfl⟩
    rcases (show w = 0 ∨ w = 1 ∨ w = 2 ∨ w = 3 by omega) with rfl | rfl | rfl | rfl
    · exact congrArg (fun x => some (Value.int x)) hf16.1
    · exact congrArg (fun x => some (Value.int x)) hf16.2.1
    · exact congrArg (fun x => some (Value.int x)) hf16.2.2.1
    · exact congrArg (fun x => some (Value.int x)) hf16.2.2.2
set_option maxHeartbeats 4000000 in
set_option maxRecDepth 20000 in
theorem z_X4_ordered (ad ae : Nat → Nat) (cs : ClassId × ClassId × ClassId) (K : mK) (S : mS) (th : Int32) (rest : va_W) (hS : sWF S) (i : Int) (j : Nat) (hij : i = (j : Int)) (hj : j < 7) (i2 : Int) (j2 : Nat) (hij2 : i2 = (j2 : Int)) (hj2 : j2 < 7)  : mCt (mTy cs) yX4_ordered cX4_ordered 3 (some .int) ⟨2, 0, 0, 43⟩ [.ref (ae 0), .int (iZ i), .int (iZ i2)] (mRw ad ae cs K (mJof S th) rest) (fun v ws' => v = some (.int (iZ (zTo (sse S j) (sna S j) (sow S j) (sse S j2) (sna S j2) (sow S j2)))) ∧ ws' = (mRw ad ae cs K (mJof S th) rest)) mNo := by
  refine mCt.of (by decide +kernel) (Nat.le_of_ble_eq_true rfl) (fun X hX hE => ?_)
  replace hX : mOK X RX4 cX4_ordered 3 ⟨2, 0, 0, 43⟩ [] (mTy cs) := hX
  have hr := zrg hS hj
  have hr2 := zrg hS hj2
  have hse7 := hS.se hj
  have hse72 := hS.se hj2
  refine r_aload_n hX dX4_ordered_0 rfl rfl ?_
  refine r_iload_n hX dX4_ordered_1 rfl rfl ?_
  refine r_callV hX (z_X4_number ad ae cs K S th rest hS _ j (by omega) (by omega)) kv_X4_115 14 rfl rfl rfl rfl (Nat.le_of_ble_eq_true rfl) ⟨(Nat.le_of_ble_eq_true rfl), (Nat.le_of_ble_eq_true rfl)⟩ ⟨(Nat.le_of_ble_eq_true rfl), (Nat.le_of_ble_eq_true rfl)⟩ dX4_ordered_2 (fun _ _ z => False.elim z) (fun v9 ws9 h1 => ?_)
  obtain ⟨rfl, hw9⟩ := h1
  subst ws9
  dsimp only [mPush]
  refine r_aload_n hX dX4_ordered_5 rfl rfl ?_
  refine r_iload_n hX dX4_ordered_6 rfl rfl ?_
  refine r_callV hX (z_X4_number ad ae cs K S th rest hS _ j2 (by omega) (by omega)) kv_X4_115 14 rfl rfl rfl rfl (Nat.le_of_ble_eq_true rfl) ⟨(Nat.le_of_ble_eq_true rfl), (Nat.le_of_ble_eq_true rfl)⟩ ⟨(Nat.le_of_ble_eq_true rfl), (Nat.le_of_ble_eq_true rfl)⟩ dX4_ordered_7 (fun _ _ z => False.elim z) (fun v9 ws9 h2 => ?_)
  obtain ⟨rfl, hw9⟩ := h2
  subst ws9
  dsimp only [mPush]
  refine r_lif_eqZ (tgt := 28) hX dX4_ordered_10 dX4_ordered_11 (by decide) (by omega) (by omega) (fun c3 => ?_) (fun c3 => ?_)
  · refine r_aload_n hX dX4_ordered_28 rfl rfl ?_
    refine r_get hX kf_X4_17 14 rfl rfl dX4_ordered_29 ?_
    refine r_iload_n hX dX4_ordered_32 rfl rfl ?_
    refine r_ialdZ hX 17 0 rfl rfl j (by omega) (by omega) (by decide) dX4_ordered_33 ?_
    refine r_aload_n hX dX4_ordered_34 rfl rfl ?_
    refine r_get hX kf_X4_17 14 rfl rfl dX4_ordered_35 ?_
    refine r_iload_n hX dX4_ordered_38 rfl rfl ?_
    refine r_ialdZ hX 17 0 rfl rfl j2 (by omega) (by omega) (by decide) dX4_ordered_39 ?_
    refine r_icmp_eqZ (tgt := 63) hX dX4_ordered_40 (by decide) (by omega) (by omega) (fun c4 => ?_) (fun c4 => ?_)
    · refine r_aload_n hX dX4_ordered_63 rfl rfl ?_
      refine r_get hX kf_X4_20 14 rfl rfl dX4_ordered_64 ?_
      refine r_iload_n hX dX4_ordered_67 rfl rfl ?_
      refine r_ialdZ hX 18 0 rfl rfl j (by omega) (by omega) (by decide) dX4_ordered_68 ?_
      refine r_i2lZ hX dX4_ordered_69 (by omega) ?_
      refine r_aload_n hX dX4_ordered_70 rfl rfl ?_
      refine r_get hX kf_X4_20 14 rfl rfl dX4_ordered_71 ?_
      refine r_iload_n hX dX4_ordered_74 rfl rfl ?_
      refine r_ialdZ hX 18 0 rfl rfl j2 (by omega) (by omega) (by decide) dX4_ordered_75 ?_
      refine r_i2lZ hX dX4_ordered_76 (by omega) ?_
      refine r_callS hX (z_X4_order _ _ _ _ (by omega) (by omega)) ks_X4_88 rfl rfl (Nat.le_of_ble_eq_true rfl) ⟨(Nat.le_of_ble_eq_true rfl), (Nat.le_of_ble_eq_true rfl)⟩ ⟨(Nat.le_of_ble_eq_true rfl), (Nat.le_of_ble_eq_true rfl)⟩ dX4_ordered_77 (fun _ _ z => False.elim z) (fun v9 ws9 h5 => ?_)
      obtain ⟨rfl, hw9⟩ := h5
      subst ws9
      dsimp only [mPush]
      have hcm5 := cmpZ_b (sse S j % 86400) (sse S j2 % 86400)
      refine r_iret hX hE dX4_ordered_80 (Nat.le_of_ble_eq_true rfl) (Nat.le_of_ble_eq_true rfl) ⟨zi ?_, rfl⟩
      have s1 := cmpZ_s ((sse S j - sow S j) * 1000000000 + sna S j) ((sse S j2 - sow S j2) * 1000000000 + sna S j2)
      have s2 := cmpZ_s (sse S j) (sse S j2)
      have s3 := cmpZ_s (sse S j / 86400) (sse S j2 / 86400)
      have s4 := cmpZ_s (sse S j % 86400) (sse S j2 % 86400)
      have s5 := zMo_s (sse S j) (sna S j) (sow S j) (sse S j2) (sna S j2) (sow S j2)
      have s6 := zTo_s (sse S j) (sna S j) (sow S j) (sse S j2) (sna S j2) (sow S j2)
      omega
    · refine r_aload_n hX dX4_ordered_43 rfl rfl ?_
      refine r_get hX kf_X4_17 14 rfl rfl dX4_ordered_44 ?_
      refine r_iload_n hX dX4_ordered_47 rfl rfl ?_
      refine r_ialdZ hX 17 0 rfl rfl j (by omega) (by omega) (by decide) dX4_ordered_48 ?_
      refine r_i2lZ hX dX4_ordered_49 (by omega) ?_
      refine r_aload_n hX dX4_ordered_50 rfl rfl ?_
      refine r_get hX kf_X4_17 14 rfl rfl dX4_ordered_51 ?_
      refine r_iload_n hX dX4_ordered_54 rfl rfl ?_
      refine r_ialdZ hX 17 0 rfl rfl j2 (by omega) (by omega) (by decide) dX4_ordered_55 ?_
      refine r_i2lZ hX dX4_ordered_56 (by omega) ?_
      refine r_callS hX (z_X4_order _ _ _ _ (by omega) (by omega)) ks_X4_88 rfl rfl (Nat.le_of_ble_eq_true rfl) ⟨(Nat.le_of_ble_eq_true rfl), (Nat.le_of_ble_eq_true rfl)⟩ ⟨(Nat.le_of_ble_eq_true rfl), (Nat.le_of_ble_eq_true rfl)⟩ dX4_ordered_57 (fun _ _ z => False.elim z) (fun v9 ws9 h6 => ?_)
      obtain ⟨rfl, hw9⟩ := h6
      subst ws9
      dsimp only [mPush]
      have hcm6 := cmpZ_b (sse S j / 86400) (sse S j2 / 86400)
      refine r_goto (tgt := 80) hX dX4_ordered_60 (by decide) ?_
      refine r_iret hX hE dX4_ordered_80 (Nat.le_of_ble_eq_true rfl) (Nat.le_of_ble_eq_true rfl) ⟨zi ?_, rfl⟩
      have s1 := cmpZ_s ((sse S j - sow S j) * 1000000000 + sna S j) ((sse S j2 - sow S j2) * 1000000000 + sna S j2)
      have s2 := cmpZ_s (sse S j) (sse S j2)
      have s3 := cmpZ_s (sse S j / 86400) (sse S j2 / 86400)
      have s4 := cmpZ_s (sse S j % 86400) (sse S j2 % 86400)
      have s5 := zMo_s (sse S j) (sna S j) (sow S j) (sse S j2) (sna S j2) (sow S j2)
      have s6 := zTo_s (sse S j) (sna S j) (sow S j) (sse S j2) (sna S j2) (sow S j2)
      omega
  · refine r_aload_n hX dX4_ordered_14 rfl rfl ?_
    refine r_iload_n hX dX4_ordered_15 rfl rfl ?_
    refine r_callV hX (z_X4_number ad ae cs K S th rest hS _ j (by omega) (by omega)) kv_X4_115 14 rfl rfl rfl rfl (Nat.le_of_ble_eq_true rfl) ⟨(Nat.le_of_ble_eq_true rfl), (Nat.le_of_ble_eq_true rfl)⟩ ⟨(Nat.le_of_ble_eq_true rfl), (Nat.le_of_ble_eq_true rfl)⟩ dX4_ordered_16 (fun _ _ z => False.elim z) (fun v9 ws9 h7 => ?_)
    obtain ⟨rfl, hw9⟩ := h7
    subst ws9
    dsimp only [mPush]
    refine r_aload_n hX dX4_ordered_19 rfl rfl ?_
    refine r_iload_n hX dX4_ordered_20 rfl rfl ?_
    refine r_callV hX (z_X4_number ad ae cs K S th rest hS _ j2 (by omega) (by omega)) kv_X4_115 14 rfl rfl rfl rfl (Nat.le_of_ble_eq_true rfl) ⟨(Nat.le_of_ble_eq_true rfl), (Nat.le_of_ble_eq_true rfl)⟩ ⟨(Nat.le_of_ble_eq_true rfl), (Nat.le_of_ble_eq_true rfl)⟩ dX4_ordered_21 (fun _ _ z => False.elim z) (fun v9 ws9 h8 => ?_)
    obtain ⟨rfl, hw9⟩ := h8
    subst ws9
    dsimp only [mPush]
    refine r_callS hX (z_X4_order _ _ _ _ (by omega) (by omega)) ks_X4_88 rfl rfl (Nat.le_of_ble_eq_true rfl) ⟨(Nat.le_of_ble_eq_true rfl), (Nat.le_of_ble_eq_true rfl)⟩ ⟨(Nat.le_of_ble_eq_true rfl), (Nat.le_of_ble_eq_true rfl)⟩ dX4_ordered_24 (fun _ _ z => False.elim z) (fun v9 ws9 h9 => ?_)
    obtain ⟨rfl, hw9⟩ := h9
    subst ws9
    dsimp only [mPush]
    have hcm9 := cmpZ_b ((sse S j - sow S j) * 1000000000 + sna S j) ((sse S j2 - sow S j2) * 1000000000 + sna S j2)
    refine r_iret hX hE dX4_ordered_27 (Nat.le_of_ble_eq_true rfl) (Nat.le_of_ble_eq_true rfl) ⟨zi ?_, rfl⟩
    have s1 := cmpZ_s ((sse S j - sow S j) * 1000000000 + sna S j) ((sse S j2 - sow S j2) * 1000000000 + sna S j2)
    have s2 := cmpZ_s (sse S j) (sse S j2)
    have s3 := cmpZ_s (sse S j / 86400) (sse S j2 / 86400)
    have s4 := cmpZ_s (sse S j % 86400) (sse S j2 % 86400)
    have s5 := zMo_s (sse S j) (sna S j) (sow S j) (sse S j2) (sna S j2) (sow S j2)
    have s6 := zTo_s (sse S j) (sna S j) (sow S j) (sse S j2) (sna S j2) (sow S j2)
    omega
set_option maxHeartbeats 4000000 in
set_option maxRecDepth 20000 in
theorem z_X4_is (ad ae : Nat → Nat) (cs : ClassId × ClassId × ClassId) (K : mK) (S : mS) (th : Int32) (rest : va_W) (hS : sWF S) (i : Int) (j : Nat) (hij : i = (j : Int)) (hj : j < 7) (i2 : Int) (j2 : Nat) (hij2 : i2 = (j2 : Int)) (hj2 : j2 < 7) (w : Int) (hw : 0 ≤ w ∧ w ≤ 3)  : mCt (mTy cs) yX4_is cX4_is 4 (some .boolean) ⟨2, 0, 0, 43⟩ [.ref (ae 0), .int (iZ i), .int (iZ i2), .int (iZ w)] (mRw ad ae cs K (mJof S th) rest) (fun v ws' => v = some (.int (b2i (zSo (sse S j) (sna S j) (sow S j) (sse S j2) (sna S j2) (sow S j2) w))) ∧ ws' = (mRw ad ae cs K (mJof S th) rest)) mNo := by
  refine mCt.of (by decide +kernel) (Nat.le_of_ble_eq_true rfl) (fun X hX hE => ?_)
  replace hX : mOK X RX4 cX4_is 4 ⟨2, 0, 0, 43⟩ [] (mTy cs) := hX
  have hr := zrg hS hj
  have hr2 := zrg hS hj2
  have hse7 := hS.se hj
  have hse72 := hS.se hj2
  refine r_iload_n hX dX4_is_0 rfl rfl ?_
  refine r_iconstZ hX dX4_is_1 ?_
  refine r_icmp_neZ (tgt := 71) hX dX4_is_2 (by decide) (by omega) (by decide) (fun c1 => ?_) (fun c1 => ?_)
  · refine r_aload_n hX dX4_is_71 rfl rfl ?_
    refine r_iload_n hX dX4_is_72 rfl rfl ?_
    refine r_callV hX (z_X4_number ad ae cs K S th rest hS _ j (by omega) (by omega)) kv_X4_115 14 rfl rfl rfl rfl (Nat.le_of_ble_eq_true rfl) ⟨(Nat.le_of_ble_eq_true rfl), (Nat.le_of_ble_eq_true rfl)⟩ ⟨(Nat.le_of_ble_eq_true rfl), (Nat.le_of_ble_eq_true rfl)⟩ dX4_is_73 (fun _ _ z => False.elim z) (fun v9 ws9 h2 => ?_)
    obtain ⟨rfl, hw9⟩ := h2
    subst ws9
    dsimp only [mPush]
    refine r_aload_n hX dX4_is_76 rfl rfl ?_
    refine r_iload_n hX dX4_is_77 rfl rfl ?_
    refine r_callV hX (z_X4_number ad ae cs K S th rest hS _ j2 (by omega) (by omega)) kv_X4_115 14 rfl rfl rfl rfl (Nat.le_of_ble_eq_true rfl) ⟨(Nat.le_of_ble_eq_true rfl), (Nat.le_of_ble_eq_true rfl)⟩ ⟨(Nat.le_of_ble_eq_true rfl), (Nat.le_of_ble_eq_true rfl)⟩ dX4_is_78 (fun _ _ z => False.elim z) (fun v9 ws9 h3 => ?_)
    obtain ⟨rfl, hw9⟩ := h3
    subst ws9
    dsimp only [mPush]
    refine r_callS hX (z_X4_order _ _ _ _ (by omega) (by omega)) ks_X4_88 rfl rfl (Nat.le_of_ble_eq_true rfl) ⟨(Nat.le_of_ble_eq_true rfl), (Nat.le_of_ble_eq_true rfl)⟩ ⟨(Nat.le_of_ble_eq_true rfl), (Nat.le_of_ble_eq_true rfl)⟩ dX4_is_81 (fun _ _ z => False.elim z) (fun v9 ws9 h4 => ?_)
    obtain ⟨rfl, hw9⟩ := h4
    subst ws9
    dsimp only [mPush]
    have hcm4 := cmpZ_b ((sse S j - sow S j) * 1000000000 + sna S j) ((sse S j2 - sow S j2) * 1000000000 + sna S j2)
    refine r_iload_n hX dX4_is_84 rfl rfl ?_
    refine r_if_neZ (tgt := 92) hX dX4_is_85 (by decide) (by omega) (fun c5 => ?_) (fun c5 => ?_)
    · refine r_iload_n hX dX4_is_92 rfl rfl ?_
      refine r_iconstZ hX dX4_is_93 ?_
      refine r_icmp_neZ (tgt := 101) hX dX4_is_94 (by decide) (by omega) (by decide) (fun c6 => ?_) (fun c6 => ?_)
      · refine r_iconstZ hX dX4_is_101 ?_
        refine r_icmp_neZ (tgt := 109) hX dX4_is_102 (by decide) (by omega) (by decide) (fun c7 => ?_) (fun c7 => ?_)
        · refine r_iconstZ hX dX4_is_109 ?_
          refine r_zret hX hE dX4_is_110 (by decide) (Nat.le_of_ble_eq_true rfl) (Nat.le_of_ble_eq_true rfl) ⟨zb0 ?_, rfl⟩
          have s1 := cmpZ_s ((sse S j - sow S j) * 1000000000 + sna S j) ((sse S j2 - sow S j2) * 1000000000 + sna S j2)
          have s2 := cmpZ_s (sse S j) (sse S j2)
          have s3 := cmpZ_s (sse S j / 86400) (sse S j2 / 86400)
          have s4 := cmpZ_s (sse S j % 86400) (sse S j2 % 86400)
          have s5 := zMo_s (sse S j) (sna S j) (sow S j) (sse S j2) (sna S j2) (sow S j2)
          have s6 := zTo_s (sse S j) (sna S j) (sow S j) (sse S j2) (sna S j2) (sow S j2)
          have s7 := zMo_s (sse S j2) (sna S j2) (sow S j2) (sse S j) (sna S j) (sow S j)
          unfold zSo
          first | rw [if_pos (by omega)] | rw [if_neg (by omega), if_pos (by omega)] | rw [if_neg (by omega), if_neg (by omega), if_pos (by omega)] | rw [if_neg (by omega), if_neg (by omega), if_neg (by omega)]
          exact decide_eq_false (by omega)
        · refine r_iconstZ hX dX4_is_105 ?_
          refine r_goto (tgt := 110) hX dX4_is_106 (by decide) ?_
          refine r_zret hX hE dX4_is_110 (by decide) (Nat.le_of_ble_eq_true rfl) (Nat.le_of_ble_eq_true rfl) ⟨zb1 ?_, rfl⟩
          have s1 := cmpZ_s ((sse S j - sow S j) * 1000000000 + sna S j) ((sse S j2 - sow S j2) * 1000000000 + sna S j2)
          have s2 := cmpZ_s (sse S j) (sse S j2)
          have s3 := cmpZ_s (sse S j / 86400) (sse S j2 / 86400)
          have s4 := cmpZ_s (sse S j % 86400) (sse S j2 % 86400)
          have s5 := zMo_s (sse S j) (sna S j) (sow S j) (sse S j2) (sna S j2) (sow S j2)
          have s6 := zTo_s (sse S j) (sna S j) (sow S j) (sse S j2) (sna S j2) (sow S j2)
          have s7 := zMo_s (sse S j2) (sna S j2) (sow S j2) (sse S j) (sna S j) (sow S j)
          unfold zSo
          first | rw [if_pos (by omega)] | rw [if_neg (by omega), if_pos (by omega)] | rw [if_neg (by omega), if_neg (by omega), if_pos (by omega)] | rw [if_neg (by omega), if_neg (by omega), if_neg (by omega)]
          exact decide_eq_true (by omega)
      · refine r_iconstZ hX dX4_is_97 ?_
        refine r_goto (tgt := 102) hX dX4_is_98 (by decide) ?_
        refine r_icmp_neZ (tgt := 109) hX dX4_is_102 (by decide) (by omega) (by decide) (fun c8 => ?_) (fun c8 => ?_)
        · refine r_iconstZ hX dX4_is_109 ?_
          refine r_zret hX hE dX4_is_110 (by decide) (Nat.le_of_ble_eq_true rfl) (Nat.le_of_ble_eq_true rfl) ⟨zb0 ?_, rfl⟩
          have s1 := cmpZ_s ((sse S j - sow S j) * 1000000000 + sna S j) ((sse S j2 - sow S j2) * 1000000000 + sna S j2)
          have s2 := cmpZ_s (sse S j) (sse S j2)
          have s3 := cmpZ_s (sse S j / 86400) (sse S j2 / 86400)
          have s4 := cmpZ_s (sse S j % 86400) (sse S j2 % 86400)
          have s5 := zMo_s (sse S j) (sna S j) (sow S j) (sse S j2) (sna S j2) (sow S j2)
          have s6 := zTo_s (sse S j) (sna S j) (sow S j) (sse S j2) (sna S j2) (sow S j2)
          have s7 := zMo_s (sse S j2) (sna S j2) (sow S j2) (sse S j) (sna S j) (sow S j)
          unfold zSo
          first | rw [if_pos (by omega)] | rw [if_neg (by omega), if_pos (by omega)] | rw [if_neg (by omega), if_neg (by omega), if_pos (by omega)] | rw [if_neg (by omega), if_neg (by omega), if_neg (by omega)]
          exact decide_eq_false (by omega)
        · refine r_iconstZ hX dX4_is_105 ?_
          refine r_goto (tgt := 110) hX dX4_is_106 (by decide) ?_
          refine r_zret hX hE dX4_is_110 (by decide) (Nat.le_of_ble_eq_true rfl) (Nat.le_of_ble_eq_true rfl) ⟨zb1 ?_, rfl⟩
          have s1 := cmpZ_s ((sse S j - sow S j) * 1000000000 + sna S j) ((sse S j2 - sow S j2) * 1000000000 + sna S j2)
          have s2 := cmpZ_s (sse S j) (sse S j2)
          have s3 := cmpZ_s (sse S j / 86400) (sse S j2 / 86400)
          have s4 := cmpZ_s (sse S j % 86400) (sse S j2 % 86400)
          have s5 := zMo_s (sse S j) (sna S j) (sow S j) (sse S j2) (sna S j2) (sow S j2)
          have s6 := zTo_s (sse S j) (sna S j) (sow S j) (sse S j2) (sna S j2) (sow S j2)
          have s7 := zMo_s (sse S j2) (sna S j2) (sow S j2) (sse S j) (sna S j) (sow S j)
          unfold zSo
          first | rw [if_pos (by omega)] | rw [if_neg (by omega), if_pos (by omega)] | rw [if_neg (by omega), if_neg (by omega), if_pos (by omega)] | rw [if_neg (by omega), if_neg (by omega), if_neg (by omega)]
          exact decide_eq_true (by omega)
    · refine r_iconstZ hX dX4_is_88 ?_
      refine r_goto (tgt := 102) hX dX4_is_89 (by decide) ?_
      refine r_icmp_neZ (tgt := 109) hX dX4_is_102 (by decide) (by omega) (by decide) (fun c9 => ?_) (fun c9 => ?_)
      · refine r_iconstZ hX dX4_is_109 ?_
        refine r_zret hX hE dX4_is_110 (by decide) (Nat.le_of_ble_eq_true rfl) (Nat.le_of_ble_eq_true rfl) ⟨zb0 ?_, rfl⟩
        have s1 := cmpZ_s ((sse S j - sow S j) * 1000000000 + sna S j) ((sse S j2 - sow S j2) * 1000000000 + sna S j2)
        have s2 := cmpZ_s (sse S j) (sse S j2)
        have s3 := cmpZ_s (sse S j / 86400) (sse S j2 / 86400)
        have s4 := cmpZ_s (sse S j % 86400) (sse S j2 % 86400)
        have s5 := zMo_s (sse S j) (sna S j) (sow S j) (sse S j2) (sna S j2) (sow S j2)
        have s6 := zTo_s (sse S j) (sna S j) (sow S j) (sse S j2) (sna S j2) (sow S j2)
        have s7 := zMo_s (sse S j2) (sna S j2) (sow S j2) (sse S j) (sna S j) (sow S j)
        unfold zSo
        first | rw [if_pos (by omega)] | rw [if_neg (by omega), if_pos (by omega)] | rw [if_neg (by omega), if_neg (by omega), if_pos (by omega)] | rw [if_neg (by omega), if_neg (by omega), if_neg (by omega)]
        exact decide_eq_false (by omega)
      · refine r_iconstZ hX dX4_is_105 ?_
        refine r_goto (tgt := 110) hX dX4_is_106 (by decide) ?_
        refine r_zret hX hE dX4_is_110 (by decide) (Nat.le_of_ble_eq_true rfl) (Nat.le_of_ble_eq_true rfl) ⟨zb1 ?_, rfl⟩
        have s1 := cmpZ_s ((sse S j - sow S j) * 1000000000 + sna S j) ((sse S j2 - sow S j2) * 1000000000 + sna S j2)
        have s2 := cmpZ_s (sse S j) (sse S j2)
        have s3 := cmpZ_s (sse S j / 86400) (sse S j2 / 86400)
        have s4 := cmpZ_s (sse S j % 86400) (sse S j2 % 86400)
        have s5 := zMo_s (sse S j) (sna S j) (sow S j) (sse S j2) (sna S j2) (sow S j2)
        have s6 := zTo_s (sse S j) (sna S j) (sow S j) (sse S j2) (sna S j2) (sow S j2)
        have s7 := zMo_s (sse S j2) (sna S j2) (sow S j2) (sse S j) (sna S j) (sow S j)
        unfold zSo
        first | rw [if_pos (by omega)] | rw [if_neg (by omega), if_pos (by omega)] | rw [if_neg (by omega), if_neg (by omega), if_pos (by omega)] | rw [if_neg (by omega), if_neg (by omega), if_neg (by omega)]
        exact decide_eq_true (by omega)
  · refine r_aload_n hX dX4_is_5 rfl rfl ?_
    refine r_get hX kf_X4_17 14 rfl rfl dX4_is_6 ?_
    refine r_iload_n hX dX4_is_9 rfl rfl ?_
    refine r_ialdZ hX 17 0 rfl rfl j (by omega) (by omega) (by decide) dX4_is_10 ?_
    refine r_aload_n hX dX4_is_11 rfl rfl ?_
    refine r_get hX kf_X4_17 14 rfl rfl dX4_is_12 ?_
    refine r_iload_n hX dX4_is_15 rfl rfl ?_
    refine r_ialdZ hX 17 0 rfl rfl j2 (by omega) (by omega) (by decide) dX4_is_16 ?_
    refine r_icmp_neZ (tgt := 69) hX dX4_is_17 (by decide) (by omega) (by omega) (fun c10 => ?_) (fun c10 => ?_)
    · refine r_iconstZ hX dX4_is_69 ?_
      refine r_zret hX hE dX4_is_70 (by decide) (Nat.le_of_ble_eq_true rfl) (Nat.le_of_ble_eq_true rfl) ⟨zb0 ?_, rfl⟩
      have s1 := cmpZ_s ((sse S j - sow S j) * 1000000000 + sna S j) ((sse S j2 - sow S j2) * 1000000000 + sna S j2)
      have s2 := cmpZ_s (sse S j) (sse S j2)
      have s3 := cmpZ_s (sse S j / 86400) (sse S j2 / 86400)
      have s4 := cmpZ_s (sse S j % 86400) (sse S j2 % 86400)
      have s5 := zMo_s (sse S j) (sna S j) (sow S j) (sse S j2) (sna S j2) (sow S j2)
      have s6 := zTo_s (sse S j) (sna S j) (sow S j) (sse S j2) (sna S j2) (sow S j2)
      have s7 := zMo_s (sse S j2) (sna S j2) (sow S j2) (sse S j) (sna S j) (sow S j)
      unfold zSo
      first | rw [if_pos (by omega)] | rw [if_neg (by omega), if_pos (by omega)] | rw [if_neg (by omega), if_neg (by omega), if_pos (by omega)] | rw [if_neg (by omega), if_neg (by omega), if_neg (by omega)]
      exact decide_eq_false (by omega)
    · refine r_aload_n hX dX4_is_20 rfl rfl ?_
      refine r_get hX kf_X4_20 14 rfl rfl dX4_is_21 ?_
      refine r_iload_n hX dX4_is_24 rfl rfl ?_
      refine r_ialdZ hX 18 0 rfl rfl j (by omega) (by omega) (by decide) dX4_is_25 ?_
      refine r_aload_n hX dX4_is_26 rfl rfl ?_
      refine r_get hX kf_X4_20 14 rfl rfl dX4_is_27 ?_
      refine r_iload_n hX dX4_is_30 rfl rfl ?_
      refine r_ialdZ hX 18 0 rfl rfl j2 (by omega) (by omega) (by decide) dX4_is_31 ?_
      refine r_icmp_neZ (tgt := 69) hX dX4_is_32 (by decide) (by omega) (by omega) (fun c11 => ?_) (fun c11 => ?_)
      · refine r_iconstZ hX dX4_is_69 ?_
        refine r_zret hX hE dX4_is_70 (by decide) (Nat.le_of_ble_eq_true rfl) (Nat.le_of_ble_eq_true rfl) ⟨zb0 ?_, rfl⟩
        have s1 := cmpZ_s ((sse S j - sow S j) * 1000000000 + sna S j) ((sse S j2 - sow S j2) * 1000000000 + sna S j2)
        have s2 := cmpZ_s (sse S j) (sse S j2)
        have s3 := cmpZ_s (sse S j / 86400) (sse S j2 / 86400)
        have s4 := cmpZ_s (sse S j % 86400) (sse S j2 % 86400)
        have s5 := zMo_s (sse S j) (sna S j) (sow S j) (sse S j2) (sna S j2) (sow S j2)
        have s6 := zTo_s (sse S j) (sna S j) (sow S j) (sse S j2) (sna S j2) (sow S j2)
        have s7 := zMo_s (sse S j2) (sna S j2) (sow S j2) (sse S j) (sna S j) (sow S j)
        unfold zSo
        first | rw [if_pos (by omega)] | rw [if_neg (by omega), if_pos (by omega)] | rw [if_neg (by omega), if_neg (by omega), if_pos (by omega)] | rw [if_neg (by omega), if_neg (by omega), if_neg (by omega)]
        exact decide_eq_false (by omega)
      · refine r_aload_n hX dX4_is_35 rfl rfl ?_
        refine r_get hX kf_X4_23 14 rfl rfl dX4_is_36 ?_
        refine r_iload_n hX dX4_is_39 rfl rfl ?_
        refine r_ialdZ hX 19 0 rfl rfl j (by omega) (by omega) (by decide) dX4_is_40 ?_
        refine r_aload_n hX dX4_is_41 rfl rfl ?_
        refine r_get hX kf_X4_23 14 rfl rfl dX4_is_42 ?_
        refine r_iload_n hX dX4_is_45 rfl rfl ?_
        refine r_ialdZ hX 19 0 rfl rfl j2 (by omega) (by omega) (by decide) dX4_is_46 ?_
        refine r_icmp_neZ (tgt := 69) hX dX4_is_47 (by decide) (by omega) (by omega) (fun c12 => ?_) (fun c12 => ?_)
        · refine r_iconstZ hX dX4_is_69 ?_
          refine r_zret hX hE dX4_is_70 (by decide) (Nat.le_of_ble_eq_true rfl) (Nat.le_of_ble_eq_true rfl) ⟨zb0 ?_, rfl⟩
          have s1 := cmpZ_s ((sse S j - sow S j) * 1000000000 + sna S j) ((sse S j2 - sow S j2) * 1000000000 + sna S j2)
          have s2 := cmpZ_s (sse S j) (sse S j2)
          have s3 := cmpZ_s (sse S j / 86400) (sse S j2 / 86400)
          have s4 := cmpZ_s (sse S j % 86400) (sse S j2 % 86400)
          have s5 := zMo_s (sse S j) (sna S j) (sow S j) (sse S j2) (sna S j2) (sow S j2)
          have s6 := zTo_s (sse S j) (sna S j) (sow S j) (sse S j2) (sna S j2) (sow S j2)
          have s7 := zMo_s (sse S j2) (sna S j2) (sow S j2) (sse S j) (sna S j) (sow S j)
          unfold zSo
          first | rw [if_pos (by omega)] | rw [if_neg (by omega), if_pos (by omega)] | rw [if_neg (by omega), if_neg (by omega), if_pos (by omega)] | rw [if_neg (by omega), if_neg (by omega), if_neg (by omega)]
          exact decide_eq_false (by omega)
        · refine r_aload_n hX dX4_is_50 rfl rfl ?_
          refine r_get hX kf_X4_26 14 rfl rfl dX4_is_51 ?_
          refine r_iload_n hX dX4_is_54 rfl rfl ?_
          refine r_ialdZ hX 20 0 rfl rfl j (by omega) (by omega) (by decide) dX4_is_55 ?_
          refine r_aload_n hX dX4_is_56 rfl rfl ?_
          refine r_get hX kf_X4_26 14 rfl rfl dX4_is_57 ?_
          refine r_iload_n hX dX4_is_60 rfl rfl ?_
          refine r_ialdZ hX 20 0 rfl rfl j2 (by omega) (by omega) (by decide) dX4_is_61 ?_
          refine r_icmp_neZ (tgt := 69) hX dX4_is_62 (by decide) (by omega) (by omega) (fun c13 => ?_) (fun c13 => ?_)
          · refine r_iconstZ hX dX4_is_69 ?_
            refine r_zret hX hE dX4_is_70 (by decide) (Nat.le_of_ble_eq_true rfl) (Nat.le_of_ble_eq_true rfl) ⟨zb0 ?_, rfl⟩
            have s1 := cmpZ_s ((sse S j - sow S j) * 1000000000 + sna S j) ((sse S j2 - sow S j2) * 1000000000 + sna S j2)
            have s2 := cmpZ_s (sse S j) (sse S j2)
            have s3 := cmpZ_s (sse S j / 86400) (sse S j2 / 86400)
            have s4 := cmpZ_s (sse S j % 86400) (sse S j2 % 86400)
            have s5 := zMo_s (sse S j) (sna S j) (sow S j) (sse S j2) (sna S j2) (sow S j2)
            have s6 := zTo_s (sse S j) (sna S j) (sow S j) (sse S j2) (sna S j2) (sow S j2)
            have s7 := zMo_s (sse S j2) (sna S j2) (sow S j2) (sse S j) (sna S j) (sow S j)
            unfold zSo
            first | rw [if_pos (by omega)] | rw [if_neg (by omega), if_pos (by omega)] | rw [if_neg (by omega), if_neg (by omega), if_pos (by omega)] | rw [if_neg (by omega), if_neg (by omega), if_neg (by omega)]
            exact decide_eq_false (by omega)
          · refine r_iconstZ hX dX4_is_65 ?_
            refine r_goto (tgt := 70) hX dX4_is_66 (by decide) ?_
            refine r_zret hX hE dX4_is_70 (by decide) (Nat.le_of_ble_eq_true rfl) (Nat.le_of_ble_eq_true rfl) ⟨zb1 ?_, rfl⟩
            have s1 := cmpZ_s ((sse S j - sow S j) * 1000000000 + sna S j) ((sse S j2 - sow S j2) * 1000000000 + sna S j2)
            have s2 := cmpZ_s (sse S j) (sse S j2)
            have s3 := cmpZ_s (sse S j / 86400) (sse S j2 / 86400)
            have s4 := cmpZ_s (sse S j % 86400) (sse S j2 % 86400)
            have s5 := zMo_s (sse S j) (sna S j) (sow S j) (sse S j2) (sna S j2) (sow S j2)
            have s6 := zTo_s (sse S j) (sna S j) (sow S j) (sse S j2) (sna S j2) (sow S j2)
            have s7 := zMo_s (sse S j2) (sna S j2) (sow S j2) (sse S j) (sna S j) (sow S j)
            unfold zSo
            first | rw [if_pos (by omega)] | rw [if_neg (by omega), if_pos (by omega)] | rw [if_neg (by omega), if_neg (by omega), if_pos (by omega)] | rw [if_neg (by omega), if_neg (by omega), if_neg (by omega)]
            exact decide_eq_true (by omega)
set_option maxHeartbeats 4000000 in
set_option maxRecDepth 20000 in
theorem z_X4_ofSecond (ad ae : Nat → Nat) (cs : ClassId × ClassId × ClassId) (K : mK) (S : mS) (th : Int32) (rest : va_W) (i : Int) (c : Nat) (hic : i = (c : Int)) (hc : c < 3)  : mCt (mTy cs) yX4_ofSecond cX4_ofSecond 2 (some .int) ⟨0, 0, 0, 0⟩ [.ref (ae 0), .int (iZ i)] (mRw ad ae cs K (mJof S th) rest) (fun v ws' => v = some (.int (iZ (sse S (c + 4) % 86400 - sow S (c + 4)))) ∧ ws' = (mRw ad ae cs K (mJof S th) rest)) mNo := by
  refine mCt.of (by decide +kernel) (Nat.le_of_ble_eq_true rfl) (fun X hX hE => ?_)
  replace hX : mOK X RX4 cX4_ofSecond 2 ⟨0, 0, 0, 0⟩ [] (mTy cs) := hX
  refine r_aload_n hX dX4_ofSecond_0 rfl rfl ?_
  refine r_get hX kf_X4_20 14 rfl rfl dX4_ofSecond_1 ?_
  refine r_iconstZ hX dX4_ofSecond_4 ?_
  refine r_iload_n hX dX4_ofSecond_5 rfl rfl ?_
  refine r_iaddZ hX dX4_ofSecond_6 ?_
  refine r_ialdZ hX 18 0 rfl rfl (c + 4) (by omega) (by omega) (by decide) dX4_ofSecond_7 ?_
  refine r_aload_n hX dX4_ofSecond_8 rfl rfl ?_
  refine r_get hX kf_X4_26 14 rfl rfl dX4_ofSecond_9 ?_
  refine r_iconstZ hX dX4_ofSecond_12 ?_
  refine r_iload_n hX dX4_ofSecond_13 rfl rfl ?_
  refine r_iaddZ hX dX4_ofSecond_14 ?_
  refine r_ialdZ hX 20 0 rfl rfl (c + 4) (by omega) (by omega) (by decide) dX4_ofSecond_15 ?_
  refine r_isubZ hX dX4_ofSecond_16 ?_
  refine r_iret hX hE dX4_ofSecond_17 (Nat.le_of_ble_eq_true rfl) (Nat.le_of_ble_eq_true rfl) ⟨zi ?_, rfl⟩
  rfl
set_option maxHeartbeats 4000000 in
set_option maxRecDepth 20000 in
theorem z_X4_turn (ad ae : Nat → Nat) (cs : ClassId × ClassId × ClassId) (K : mK) (S : mS) (th : Int32) (rest : va_W) (hS : sWF S) (i : Int) (c : Nat) (hic : i = (c : Int)) (hc : c < 3) (z n o : Int) (hz : -4000000000000000000 ≤ z ∧ z ≤ 4000000000000000000)  : mCt (mTy cs) yX4_turn cX4_turn 6 (some .int) ⟨2, 0, 0, 46⟩ [.ref (ae 0), .int (iZ i), .long (lZ z), .int (iZ n), .int (iZ o)] (mRw ad ae cs K (mJof S th) rest) (fun v ws' => v = some (.int (iZ (oClk S c z n o).1)) ∧ ws' = mRw ad ae cs K (mJof (oClk S c z n o).2 th) rest) mNo := by
  refine mCt.of (by decide +kernel) (Nat.le_of_ble_eq_true rfl) (fun X hX hE => ?_)
  replace hX : mOK X RX4 cX4_turn 6 ⟨2, 0, 0, 46⟩ [] (mTy cs) := hX
  refine r_aload_n hX dX4_turn_0 rfl rfl ?_
  refine r_iconstZ hX dX4_turn_1 ?_
  refine r_iload_n hX dX4_turn_2 rfl rfl ?_
  refine r_iaddZ hX dX4_turn_3 ?_
  refine r_iconstZ hX dX4_turn_4 ?_
  refine r_lload_n hX dX4_turn_5 rfl rfl ?_
  refine r_ldc2Z (z := 86400) hX kc_X4_113 (by decide) dX4_turn_6 ?_
  refine r_callS hX (c_X4_rest_x _ _ _ _ (by omega) (by omega) (by omega) (by omega)) ks_X4_102 rfl rfl (Nat.le_of_ble_eq_true rfl) ⟨(Nat.le_of_ble_eq_true rfl), (Nat.le_of_ble_eq_true rfl)⟩ ⟨(Nat.le_of_ble_eq_true rfl), (Nat.le_of_ble_eq_true rfl)⟩ dX4_turn_9 (fun _ _ z => False.elim z) (fun v9 ws9 h1 => ?_)
  obtain ⟨rfl, hw9⟩ := h1
  subst ws9
  dsimp only [mPush]
  refine r_iload hX dX4_turn_12 rfl ?_
  refine r_iload hX dX4_turn_14 rfl ?_
  refine r_callV hX (z_X4_put ad ae cs K S th rest hS _ (c + 4) (by omega) (by omega) _ _ _ _ (by omega)) kv_X4_139 14 rfl rfl rfl rfl (Nat.le_of_ble_eq_true rfl) ⟨(Nat.le_of_ble_eq_true rfl), (Nat.le_of_ble_eq_true rfl)⟩ ⟨(Nat.le_of_ble_eq_true rfl), (Nat.le_of_ble_eq_true rfl)⟩ dX4_turn_16 (fun _ _ z => False.elim z) (fun v9 ws9 h2 => ?_)
  obtain ⟨rfl, hw9⟩ := h2
  subst ws9
  dsimp only [mPush]
  refine r_pop hX dX4_turn_19 rfl ?_
  refine r_aload_n hX dX4_turn_20 rfl rfl ?_
  refine r_iload_n hX dX4_turn_21 rfl rfl ?_
  refine r_callV hX (z_X4_ofSecond ad ae cs K (sLo S (c + 4) (0 * 86400 + (z % 86400), n, o)) th rest _ c (by omega) (by omega)) kv_X4_202 14 rfl rfl rfl rfl (Nat.le_of_ble_eq_true rfl) ⟨(Nat.le_of_ble_eq_true rfl), (Nat.le_of_ble_eq_true rfl)⟩ ⟨(Nat.le_of_ble_eq_true rfl), (Nat.le_of_ble_eq_true rfl)⟩ dX4_turn_22 (fun _ _ z => False.elim z) (fun v9 ws9 h3 => ?_)
  obtain ⟨rfl, hw9⟩ := h3
  subst ws9
  dsimp only [mPush]
  refine r_iret hX hE dX4_turn_25 (Nat.le_of_ble_eq_true rfl) (Nat.le_of_ble_eq_true rfl) ?_
  refine ⟨zi ?_, ?_⟩
  · rw [zlo_day, zlo_own]
    show (0 * 86400 + z % 86400) % 86400 - o = z % 86400 - o
    omega
  · rw [show (0 : Int) * 86400 + z % 86400 = z % 86400 by omega]
    rfl
set_option maxHeartbeats 4000000 in
set_option maxRecDepth 20000 in
theorem z_X4_clockTold (ad ae : Nat → Nat) (cs : ClassId × ClassId × ClassId) (K : mK) (S : mS) (th : Int32) (rest : va_W) (hS : sWF S) (i : Int) (c : Nat) (hic : i = (c : Int)) (hc : c < 3) (w : Int) (hw : 0 ≤ w ∧ w ≤ 5)  : mCt (mTy cs) yX4_clockTold cX4_clockTold 3 (some .int) ⟨6, 1, 4, 142⟩ [.ref (ae 0), .int (iZ i), .int (iZ w)] (mRw ad ae cs K (mJof S th) rest) (fun v ws' => v = some (.int (iZ (zCP (sse S (c + 4)) (sna S (c + 4)) (sow S (c + 4)) w))) ∧ ws' = (mRw ad ae cs K (mJof S th) rest)) mNo := by
  refine mCt.of (by decide +kernel) (Nat.le_of_ble_eq_true rfl) (fun X hX hE => ?_)
  replace hX : mOK X RX4 cX4_clockTold 3 ⟨6, 1, 4, 142⟩ [] (mTy cs) := hX
  refine r_iload_n hX dX4_clockTold_0 rfl rfl ?_
  refine r_iconstZ hX dX4_clockTold_1 ?_
  refine r_icmp_geZ (tgt := 18) hX dX4_clockTold_2 (by decide) (by omega) (by decide) (fun c1 => ?_) (fun c1 => ?_)
  · refine r_iload_n hX dX4_clockTold_18 rfl rfl ?_
    refine r_iconstZ hX dX4_clockTold_19 ?_
    refine r_icmp_neZ (tgt := 34) hX dX4_clockTold_20 (by decide) (by omega) (by decide) (fun c2 => ?_) (fun c2 => ?_)
    · refine r_aload_n hX dX4_clockTold_34 rfl rfl ?_
      refine r_get hX kf_X4_20 14 rfl rfl dX4_clockTold_35 ?_
      refine r_iconstZ hX dX4_clockTold_38 ?_
      refine r_iload_n hX dX4_clockTold_39 rfl rfl ?_
      refine r_iaddZ hX dX4_clockTold_40 ?_
      refine r_ialdZ hX 18 0 rfl rfl (c + 4) (by omega) (by omega) (by decide) dX4_clockTold_41 ?_
      refine r_iret hX hE dX4_clockTold_42 (Nat.le_of_ble_eq_true rfl) (Nat.le_of_ble_eq_true rfl) ⟨zi ?_, rfl⟩
      unfold zCP
      rw [if_neg (by omega), if_neg (by omega), if_neg (by omega), if_neg (by omega)]
      first | (rw [if_pos (by omega)]; done) | (rw [if_neg (by omega)]; done)
    · refine r_aload_n hX dX4_clockTold_23 rfl rfl ?_
      refine r_get hX kf_X4_26 14 rfl rfl dX4_clockTold_24 ?_
      refine r_iconstZ hX dX4_clockTold_27 ?_
      refine r_iload_n hX dX4_clockTold_28 rfl rfl ?_
      refine r_iaddZ hX dX4_clockTold_29 ?_
      refine r_ialdZ hX 20 0 rfl rfl (c + 4) (by omega) (by omega) (by decide) dX4_clockTold_30 ?_
      refine r_goto (tgt := 42) hX dX4_clockTold_31 (by decide) ?_
      refine r_iret hX hE dX4_clockTold_42 (Nat.le_of_ble_eq_true rfl) (Nat.le_of_ble_eq_true rfl) ⟨zi ?_, rfl⟩
      unfold zCP
      rw [if_neg (by omega), if_neg (by omega), if_neg (by omega), if_neg (by omega)]
      first | (rw [if_pos (by omega)]; done) | (rw [if_neg (by omega)]; done)
  · refine r_aload_n hX dX4_clockTold_5 rfl rfl ?_
    refine r_iconstZ hX dX4_clockTold_6 ?_
    refine r_iload_n hX dX4_clockTold_7 rfl rfl ?_
    refine r_iaddZ hX dX4_clockTold_8 ?_
    refine r_iconstZ hX dX4_clockTold_9 ?_
    refine r_iload_n hX dX4_clockTold_10 rfl rfl ?_
    refine r_iaddZ hX dX4_clockTold_11 ?_
    refine r_callV hX (z_X4_told ad ae cs K S th rest hS _ (c + 4) (by omega) (by omega) _ (by omega)) kv_X4_193 14 rfl rfl rfl rfl (Nat.le_of_ble_eq_true rfl) ⟨(Nat.le_of_ble_eq_true rfl), (Nat.le_of_ble_eq_true rfl)⟩ ⟨(Nat.le_of_ble_eq_true rfl), (Nat.le_of_ble_eq_true rfl)⟩ dX4_clockTold_12 (fun _ _ z => False.elim z) (fun v9 ws9 h3 => ?_)
    obtain ⟨rfl, hw9⟩ := h3
    subst ws9
    dsimp only [mPush]
    refine r_goto (tgt := 42) hX dX4_clockTold_15 (by decide) ?_
    refine r_iret hX hE dX4_clockTold_42 (Nat.le_of_ble_eq_true rfl) (Nat.le_of_ble_eq_true rfl) ⟨zi ?_, rfl⟩
    exact zdp_cp (by omega)

