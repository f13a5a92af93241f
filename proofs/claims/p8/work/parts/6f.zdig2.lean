/-! The class, exact (rows by a program of this repository). -/
set_option maxHeartbeats 4000000 in
set_option maxRecDepth 20000 in
theorem z_X2_withDatePairs (ad : Nat → Nat) (cs : ClassId × ClassId × ClassId) (S : mS) (T : mT2) (rest : va_W) (hS : sWF S) (s : Int)  : mCt (mTy cs) yX2_withDatePairs cX2_withDatePairs 7 (some .long) ⟨3, 0, 0, 67⟩ [.ref (ad 0), .long (lZ s)] (mWd ad cs (mKof S T) rest) (fun v ws' => v = some (.long (lZ (dDp S s))) ∧ ws' = (mWd ad cs (mKof S T) rest)) mNo := by
  refine mCt.of (by decide +kernel) (Nat.le_of_ble_eq_true rfl) (fun X hX hE => ?_)
  replace hX : mOK X RX2 cX2_withDatePairs 7 ⟨3, 0, 0, 67⟩ [] (mTy cs) := hX
  refine r_lload_n hX dX2_withDatePairs_0 rfl rfl ?_
  refine r_lstore_n hX dX2_withDatePairs_1 rfl (by decide) rfl ?_
  refine r_iconstZ hX dX2_withDatePairs_2 ?_
  refine r_istore hX dX2_withDatePairs_3 (by decide) rfl ?_
  refine r_iload hX dX2_withDatePairs_5 rfl ?_
  refine r_aload_n hX dX2_withDatePairs_7 rfl rfl ?_
  refine r_get hX kf_X2_20 0 rfl rfl dX2_withDatePairs_8 ?_
  refine r_alen (v := iZ 4) hX 3 2 rfl rfl rfl dX2_withDatePairs_11 ?_
  refine r_icmp_geZ (tgt := 101) hX dX2_withDatePairs_12 (by decide) (by decide) (by decide) (fun q => absurd q (by decide)) (fun _ => ?_)
  refine r_iconstZ hX dX2_withDatePairs_15 ?_
  refine r_istore hX dX2_withDatePairs_16 (by decide) rfl ?_
  refine r_iload hX dX2_withDatePairs_18 rfl ?_
  refine r_aload_n hX dX2_withDatePairs_20 rfl rfl ?_
  refine r_get hX kf_X2_20 0 rfl rfl dX2_withDatePairs_21 ?_
  refine r_alen (v := iZ 4) hX 3 2 rfl rfl rfl dX2_withDatePairs_24 ?_
  refine r_icmp_geZ (tgt := 95) hX dX2_withDatePairs_25 (by decide) (by decide) (by decide) (fun q => absurd q (by decide)) (fun _ => ?_)
  refine r_lload_n hX dX2_withDatePairs_28 rfl rfl ?_
  refine r_aload_n hX dX2_withDatePairs_29 rfl rfl ?_
  refine r_get hX kf_X2_20 0 rfl rfl dX2_withDatePairs_30 ?_
  refine r_iload hX dX2_withDatePairs_33 rfl ?_
  refine r_callS hX (z_X2_at_ok ad cs _ 3 _ 4 0 rfl (by decide) _ 0 (by omega) (by decide)) ks_X2_84 rfl rfl (Nat.le_of_ble_eq_true rfl) ⟨(Nat.le_of_ble_eq_true rfl), (Nat.le_of_ble_eq_true rfl)⟩ ⟨(Nat.le_of_ble_eq_true rfl), (Nat.le_of_ble_eq_true rfl)⟩ dX2_withDatePairs_35 (fun _ _ z => False.elim z) (fun v9 ws9 h1 => ?_)
  obtain ⟨rfl, hw9⟩ := h1
  subst ws9
  dsimp only [mPush]
  refine r_aload_n hX dX2_withDatePairs_38 rfl rfl ?_
  refine r_get hX kf_X2_20 0 rfl rfl dX2_withDatePairs_39 ?_
  refine r_iload hX dX2_withDatePairs_42 rfl ?_
  refine r_callS hX (z_X2_at_ok ad cs _ 3 _ 4 0 rfl (by decide) _ 0 (by omega) (by decide)) ks_X2_84 rfl rfl (Nat.le_of_ble_eq_true rfl) ⟨(Nat.le_of_ble_eq_true rfl), (Nat.le_of_ble_eq_true rfl)⟩ ⟨(Nat.le_of_ble_eq_true rfl), (Nat.le_of_ble_eq_true rfl)⟩ dX2_withDatePairs_44 (fun _ _ z => False.elim z) (fun v9 ws9 h2 => ?_)
  obtain ⟨rfl, hw9⟩ := h2
  subst ws9
  dsimp only [mPush]
  refine r_callV hX (z_X1_orderTo _ _ (0 + 5) _ _ _ _ (zWd_loc (d := 0) (by decide)) (zrg hS (by decide)) (0 + 5) _ _ _ _ (zWd_loc (d := 0) (by decide)) (zrg hS (by decide))) kv_X2_179 (0 + 5) (zWd_loc (d := 0) (by decide)) rfl rfl rfl (Nat.le_of_ble_eq_true rfl) ⟨(Nat.le_of_ble_eq_true rfl), (Nat.le_of_ble_eq_true rfl)⟩ ⟨(Nat.le_of_ble_eq_true rfl), (Nat.le_of_ble_eq_true rfl)⟩ dX2_withDatePairs_47 (fun _ _ z => False.elim z) (fun v9 ws9 h3 => ?_)
  obtain ⟨rfl, hw9⟩ := h3
  subst ws9
  dsimp only [mPush]
  have hb3 := zTo_b (sse S 0) (sna S 0) (sow S 0) (sse S 0) (sna S 0) (sow S 0)
  refine r_i2lZ hX dX2_withDatePairs_50 (by omega) ?_
  refine r_callS hX (z_X2_added _ _ _ _) ks_X2_247 rfl rfl (Nat.le_of_ble_eq_true rfl) ⟨(Nat.le_of_ble_eq_true rfl), (Nat.le_of_ble_eq_true rfl)⟩ ⟨(Nat.le_of_ble_eq_true rfl), (Nat.le_of_ble_eq_true rfl)⟩ dX2_withDatePairs_51 (fun _ _ z => False.elim z) (fun v9 ws9 h4 => ?_)
  obtain ⟨rfl, hw9⟩ := h4
  subst ws9
  dsimp only [mPush]
  refine r_lstore_n hX dX2_withDatePairs_54 rfl (by decide) rfl ?_
  refine r_lload_n hX dX2_withDatePairs_55 rfl rfl ?_
  refine r_aload_n hX dX2_withDatePairs_56 rfl rfl ?_
  refine r_get hX kf_X2_20 0 rfl rfl dX2_withDatePairs_57 ?_
  refine r_iload hX dX2_withDatePairs_60 rfl ?_
  refine r_callS hX (z_X2_at_ok ad cs _ 3 _ 4 0 rfl (by decide) _ 0 (by omega) (by decide)) ks_X2_84 rfl rfl (Nat.le_of_ble_eq_true rfl) ⟨(Nat.le_of_ble_eq_true rfl), (Nat.le_of_ble_eq_true rfl)⟩ ⟨(Nat.le_of_ble_eq_true rfl), (Nat.le_of_ble_eq_true rfl)⟩ dX2_withDatePairs_62 (fun _ _ z => False.elim z) (fun v9 ws9 h5 => ?_)
  obtain ⟨rfl, hw9⟩ := h5
  subst ws9
  dsimp only [mPush]
  refine r_aload_n hX dX2_withDatePairs_65 rfl rfl ?_
  refine r_get hX kf_X2_20 0 rfl rfl dX2_withDatePairs_66 ?_
  refine r_iload hX dX2_withDatePairs_69 rfl ?_
  refine r_callS hX (z_X2_at_ok ad cs _ 3 _ 4 0 rfl (by decide) _ 0 (by omega) (by decide)) ks_X2_84 rfl rfl (Nat.le_of_ble_eq_true rfl) ⟨(Nat.le_of_ble_eq_true rfl), (Nat.le_of_ble_eq_true rfl)⟩ ⟨(Nat.le_of_ble_eq_true rfl), (Nat.le_of_ble_eq_true rfl)⟩ dX2_withDatePairs_71 (fun _ _ z => False.elim z) (fun v9 ws9 h6 => ?_)
  obtain ⟨rfl, hw9⟩ := h6
  subst ws9
  dsimp only [mPush]
  refine r_callV hX (z_X1_isAlike _ _ (0 + 5) _ _ _ _ (zWd_loc (d := 0) (by decide)) (zrg hS (by decide)) (0 + 5) _ _ _ _ (zWd_loc (d := 0) (by decide)) (zrg hS (by decide))) kv_X2_360 (0 + 5) (zWd_loc (d := 0) (by decide)) rfl rfl rfl (Nat.le_of_ble_eq_true rfl) ⟨(Nat.le_of_ble_eq_true rfl), (Nat.le_of_ble_eq_true rfl)⟩ ⟨(Nat.le_of_ble_eq_true rfl), (Nat.le_of_ble_eq_true rfl)⟩ dX2_withDatePairs_74 (fun _ _ z => False.elim z) (fun v9 ws9 h7 => ?_)
  obtain ⟨rfl, hw9⟩ := h7
  subst ws9
  dsimp only [mPush]
  refine r_selL hX dX2_withDatePairs_77 dX2_withDatePairs_80 dX2_withDatePairs_81 dX2_withDatePairs_84 ?_
  refine r_callS hX (z_X2_added _ _ _ _) ks_X2_247 rfl rfl (Nat.le_of_ble_eq_true rfl) ⟨(Nat.le_of_ble_eq_true rfl), (Nat.le_of_ble_eq_true rfl)⟩ ⟨(Nat.le_of_ble_eq_true rfl), (Nat.le_of_ble_eq_true rfl)⟩ dX2_withDatePairs_85 (fun _ _ z => False.elim z) (fun v9 ws9 h8 => ?_)
  obtain ⟨rfl, hw9⟩ := h8
  subst ws9
  dsimp only [mPush]
  refine r_lstore_n hX dX2_withDatePairs_88 rfl (by decide) rfl ?_
  refine r_iincZ (z := 1) (y := 1) hX dX2_withDatePairs_89 rfl (by decide) rfl rfl ?_
  refine r_goto (tgt := 18) hX dX2_withDatePairs_92 (by decide) ?_
  refine r_iload hX dX2_withDatePairs_18 rfl ?_
  refine r_aload_n hX dX2_withDatePairs_20 rfl rfl ?_
  refine r_get hX kf_X2_20 0 rfl rfl dX2_withDatePairs_21 ?_
  refine r_alen (v := iZ 4) hX 3 2 rfl rfl rfl dX2_withDatePairs_24 ?_
  refine r_icmp_geZ (tgt := 95) hX dX2_withDatePairs_25 (by decide) (by decide) (by decide) (fun q => absurd q (by decide)) (fun _ => ?_)
  refine r_lload_n hX dX2_withDatePairs_28 rfl rfl ?_
  refine r_aload_n hX dX2_withDatePairs_29 rfl rfl ?_
  refine r_get hX kf_X2_20 0 rfl rfl dX2_withDatePairs_30 ?_
  refine r_iload hX dX2_withDatePairs_33 rfl ?_
  refine r_callS hX (z_X2_at_ok ad cs _ 3 _ 4 0 rfl (by decide) _ 0 (by omega) (by decide)) ks_X2_84 rfl rfl (Nat.le_of_ble_eq_true rfl) ⟨(Nat.le_of_ble_eq_true rfl), (Nat.le_of_ble_eq_true rfl)⟩ ⟨(Nat.le_of_ble_eq_true rfl), (Nat.le_of_ble_eq_true rfl)⟩ dX2_withDatePairs_35 (fun _ _ z => False.elim z) (fun v9 ws9 h9 => ?_)
  obtain ⟨rfl, hw9⟩ := h9
  subst ws9
  dsimp only [mPush]
  refine r_aload_n hX dX2_withDatePairs_38 rfl rfl ?_
  refine r_get hX kf_X2_20 0 rfl rfl dX2_withDatePairs_39 ?_
  refine r_iload hX dX2_withDatePairs_42 rfl ?_
  refine r_callS hX (z_X2_at_ok ad cs _ 3 _ 4 0 rfl (by decide) _ 1 (by omega) (by decide)) ks_X2_84 rfl rfl (Nat.le_of_ble_eq_true rfl) ⟨(Nat.le_of_ble_eq_true rfl), (Nat.le_of_ble_eq_true rfl)⟩ ⟨(Nat.le_of_ble_eq_true rfl), (Nat.le_of_ble_eq_true rfl)⟩ dX2_withDatePairs_44 (fun _ _ z => False.elim z) (fun v9 ws9 h10 => ?_)
  obtain ⟨rfl, hw9⟩ := h10
  subst ws9
  dsimp only [mPush]
  refine r_callV hX (z_X1_orderTo _ _ (0 + 5) _ _ _ _ (zWd_loc (d := 0) (by decide)) (zrg hS (by decide)) (1 + 5) _ _ _ _ (zWd_loc (d := 1) (by decide)) (zrg hS (by decide))) kv_X2_179 (0 + 5) (zWd_loc (d := 0) (by decide)) rfl rfl rfl (Nat.le_of_ble_eq_true rfl) ⟨(Nat.le_of_ble_eq_true rfl), (Nat.le_of_ble_eq_true rfl)⟩ ⟨(Nat.le_of_ble_eq_true rfl), (Nat.le_of_ble_eq_true rfl)⟩ dX2_withDatePairs_47 (fun _ _ z => False.elim z) (fun v9 ws9 h11 => ?_)
  obtain ⟨rfl, hw9⟩ := h11
  subst ws9
  dsimp only [mPush]
  have hb11 := zTo_b (sse S 0) (sna S 0) (sow S 0) (sse S 1) (sna S 1) (sow S 1)
  refine r_i2lZ hX dX2_withDatePairs_50 (by omega) ?_
  refine r_callS hX (z_X2_added _ _ _ _) ks_X2_247 rfl rfl (Nat.le_of_ble_eq_true rfl) ⟨(Nat.le_of_ble_eq_true rfl), (Nat.le_of_ble_eq_true rfl)⟩ ⟨(Nat.le_of_ble_eq_true rfl), (Nat.le_of_ble_eq_true rfl)⟩ dX2_withDatePairs_51 (fun _ _ z => False.elim z) (fun v9 ws9 h12 => ?_)
  obtain ⟨rfl, hw9⟩ := h12
  subst ws9
  dsimp only [mPush]
  refine r_lstore_n hX dX2_withDatePairs_54 rfl (by decide) rfl ?_
  refine r_lload_n hX dX2_withDatePairs_55 rfl rfl ?_
  refine r_aload_n hX dX2_withDatePairs_56 rfl rfl ?_
  refine r_get hX kf_X2_20 0 rfl rfl dX2_withDatePairs_57 ?_
  refine r_iload hX dX2_withDatePairs_60 rfl ?_
  refine r_callS hX (z_X2_at_ok ad cs _ 3 _ 4 0 rfl (by decide) _ 0 (by omega) (by decide)) ks_X2_84 rfl rfl (Nat.le_of_ble_eq_true rfl) ⟨(Nat.le_of_ble_eq_true rfl), (Nat.le_of_ble_eq_true rfl)⟩ ⟨(Nat.le_of_ble_eq_true rfl), (Nat.le_of_ble_eq_true rfl)⟩ dX2_withDatePairs_62 (fun _ _ z => False.elim z) (fun v9 ws9 h13 => ?_)
  obtain ⟨rfl, hw9⟩ := h13
  subst ws9
  dsimp only [mPush]
  refine r_aload_n hX dX2_withDatePairs_65 rfl rfl ?_
  refine r_get hX kf_X2_20 0 rfl rfl dX2_withDatePairs_66 ?_
  refine r_iload hX dX2_withDatePairs_69 rfl ?_
  refine r_callS hX (z_X2_at_ok ad cs _ 3 _ 4 0 rfl (by decide) _ 1 (by omega) (by decide)) ks_X2_84 rfl rfl (Nat.le_of_ble_eq_true rfl) ⟨(Nat.le_of_ble_eq_true rfl), (Nat.le_of_ble_eq_true rfl)⟩ ⟨(Nat.le_of_ble_eq_true rfl), (Nat.le_of_ble_eq_true rfl)⟩ dX2_withDatePairs_71 (fun _ _ z => False.elim z) (fun v9 ws9 h14 => ?_)
  obtain ⟨rfl, hw9⟩ := h14
  subst ws9
  dsimp only [mPush]
  refine r_callV hX (z_X1_isAlike _ _ (0 + 5) _ _ _ _ (zWd_loc (d := 0) (by decide)) (zrg hS (by decide)) (1 + 5) _ _ _ _ (zWd_loc (d := 1) (by decide)) (zrg hS (by decide))) kv_X2_360 (0 + 5) (zWd_loc (d := 0) (by decide)) rfl rfl rfl (Nat.le_of_ble_eq_true rfl) ⟨(Nat.le_of_ble_eq_true rfl), (Nat.le_of_ble_eq_true rfl)⟩ ⟨(Nat.le_of_ble_eq_true rfl), (Nat.le_of_ble_eq_true rfl)⟩ dX2_withDatePairs_74 (fun _ _ z => False.elim z) (fun v9 ws9 h15 => ?_)
  obtain ⟨rfl, hw9⟩ := h15
  subst ws9
  dsimp only [mPush]
  refine r_selL hX dX2_withDatePairs_77 dX2_withDatePairs_80 dX2_withDatePairs_81 dX2_withDatePairs_84 ?_
  refine r_callS hX (z_X2_added _ _ _ _) ks_X2_247 rfl rfl (Nat.le_of_ble_eq_true rfl) ⟨(Nat.le_of_ble_eq_true rfl), (Nat.le_of_ble_eq_true rfl)⟩ ⟨(Nat.le_of_ble_eq_true rfl), (Nat.le_of_ble_eq_true rfl)⟩ dX2_withDatePairs_85 (fun _ _ z => False.elim z) (fun v9 ws9 h16 => ?_)
  obtain ⟨rfl, hw9⟩ := h16
  subst ws9
  dsimp only [mPush]
  refine r_lstore_n hX dX2_withDatePairs_88 rfl (by decide) rfl ?_
  refine r_iincZ (z := 1) (y := 2) hX dX2_withDatePairs_89 rfl (by decide) rfl rfl ?_
  refine r_goto (tgt := 18) hX dX2_withDatePairs_92 (by decide) ?_
  refine r_iload hX dX2_withDatePairs_18 rfl ?_
  refine r_aload_n hX dX2_withDatePairs_20 rfl rfl ?_
  refine r_get hX kf_X2_20 0 rfl rfl dX2_withDatePairs_21 ?_
  refine r_alen (v := iZ 4) hX 3 2 rfl rfl rfl dX2_withDatePairs_24 ?_
  refine r_icmp_geZ (tgt := 95) hX dX2_withDatePairs_25 (by decide) (by decide) (by decide) (fun q => absurd q (by decide)) (fun _ => ?_)
  refine r_lload_n hX dX2_withDatePairs_28 rfl rfl ?_
  refine r_aload_n hX dX2_withDatePairs_29 rfl rfl ?_
  refine r_get hX kf_X2_20 0 rfl rfl dX2_withDatePairs_30 ?_
  refine r_iload hX dX2_withDatePairs_33 rfl ?_
  refine r_callS hX (z_X2_at_ok ad cs _ 3 _ 4 0 rfl (by decide) _ 0 (by omega) (by decide)) ks_X2_84 rfl rfl (Nat.le_of_ble_eq_true rfl) ⟨(Nat.le_of_ble_eq_true rfl), (Nat.le_of_ble_eq_true rfl)⟩ ⟨(Nat.le_of_ble_eq_true rfl), (Nat.le_of_ble_eq_true rfl)⟩ dX2_withDatePairs_35 (fun _ _ z => False.elim z) (fun v9 ws9 h17 => ?_)
  obtain ⟨rfl, hw9⟩ := h17
  subst ws9
  dsimp only [mPush]
  refine r_aload_n hX dX2_withDatePairs_38 rfl rfl ?_
  refine r_get hX kf_X2_20 0 rfl rfl dX2_withDatePairs_39 ?_
  refine r_iload hX dX2_withDatePairs_42 rfl ?_
  refine r_callS hX (z_X2_at_ok ad cs _ 3 _ 4 0 rfl (by decide) _ 2 (by omega) (by decide)) ks_X2_84 rfl rfl (Nat.le_of_ble_eq_true rfl) ⟨(Nat.le_of_ble_eq_true rfl), (Nat.le_of_ble_eq_true rfl)⟩ ⟨(Nat.le_of_ble_eq_true rfl), (Nat.le_of_ble_eq_true rfl)⟩ dX2_withDatePairs_44 (fun _ _ z => False.elim z) (fun v9 ws9 h18 => ?_)
  obtain ⟨rfl, hw9⟩ := h18
  subst ws9
  dsimp only [mPush]
  refine r_callV hX (z_X1_orderTo _ _ (0 + 5) _ _ _ _ (zWd_loc (d := 0) (by decide)) (zrg hS (by decide)) (2 + 5) _ _ _ _ (zWd_loc (d := 2) (by decide)) (zrg hS (by decide))) kv_X2_179 (0 + 5) (zWd_loc (d := 0) (by decide)) rfl rfl rfl (Nat.le_of_ble_eq_true rfl) ⟨(Nat.le_of_ble_eq_true rfl), (Nat.le_of_ble_eq_true rfl)⟩ ⟨(Nat.le_of_ble_eq_true rfl), (Nat.le_of_ble_eq_true rfl)⟩ dX2_withDatePairs_47 (fun _ _ z => False.elim z) (fun v9 ws9 h19 => ?_)
  obtain ⟨rfl, hw9⟩ := h19
  subst ws9
  dsimp only [mPush]
  have hb19 := zTo_b (sse S 0) (sna S 0) (sow S 0) (sse S 2) (sna S 2) (sow S 2)
  refine r_i2lZ hX dX2_withDatePairs_50 (by omega) ?_
  refine r_callS hX (z_X2_added _ _ _ _) ks_X2_247 rfl rfl (Nat.le_of_ble_eq_true rfl) ⟨(Nat.le_of_ble_eq_true rfl), (Nat.le_of_ble_eq_true rfl)⟩ ⟨(Nat.le_of_ble_eq_true rfl), (Nat.le_of_ble_eq_true rfl)⟩ dX2_withDatePairs_51 (fun _ _ z => False.elim z) (fun v9 ws9 h20 => ?_)
  obtain ⟨rfl, hw9⟩ := h20
  subst ws9
  dsimp only [mPush]
  refine r_lstore_n hX dX2_withDatePairs_54 rfl (by decide) rfl ?_
  refine r_lload_n hX dX2_withDatePairs_55 rfl rfl ?_
  refine r_aload_n hX dX2_withDatePairs_56 rfl rfl ?_
  refine r_get hX kf_X2_20 0 rfl rfl dX2_withDatePairs_57 ?_
  refine r_iload hX dX2_withDatePairs_60 rfl ?_
  refine r_callS hX (z_X2_at_ok ad cs _ 3 _ 4 0 rfl (by decide) _ 0 (by omega) (by decide)) ks_X2_84 rfl rfl (Nat.le_of_ble_eq_true rfl) ⟨(Nat.le_of_ble_eq_true rfl), (Nat.le_of_ble_eq_true rfl)⟩ ⟨(Nat.le_of_ble_eq_true rfl), (Nat.le_of_ble_eq_true rfl)⟩ dX2_withDatePairs_62 (fun _ _ z => False.elim z) (fun v9 ws9 h21 => ?_)
  obtain ⟨rfl, hw9⟩ := h21
  subst ws9
  dsimp only [mPush]
  refine r_aload_n hX dX2_withDatePairs_65 rfl rfl ?_
  refine r_get hX kf_X2_20 0 rfl rfl dX2_withDatePairs_66 ?_
  refine r_iload hX dX2_withDatePairs_69 rfl ?_
  refine r_callS hX (z_X2_at_ok ad cs _ 3 _ 4 0 rfl (by decide) _ 2 (by omega) (by decide)) ks_X2_84 rfl rfl (Nat.le_of_ble_eq_true rfl) ⟨(Nat.le_of_ble_eq_true rfl), (Nat.le_of_ble_eq_true rfl)⟩ ⟨(Nat.le_of_ble_eq_true rfl), (Nat.le_of_ble_eq_true rfl)⟩ dX2_withDatePairs_71 (fun _ _ z => False.elim z) (fun v9 ws9 h22 => ?_)
  obtain ⟨rfl, hw9⟩ := h22
  subst ws9
  dsimp only [mPush]
  refine r_callV hX (z_X1_isAlike _ _ (0 + 5) _ _ _ _ (zWd_loc (d := 0) (by decide)) (zrg hS (by decide)) (2 + 5) _ _ _ _ (zWd_loc (d := 2) (by decide)) (zrg hS (by decide))) kv_X2_360 (0 + 5) (zWd_loc (d := 0) (by decide)) rfl rfl rfl (Nat.le_of_ble_eq_true rfl) ⟨(Nat.le_of_ble_eq_true rfl), (Nat.le_of_ble_eq_true rfl)⟩ ⟨(Nat.le_of_ble_eq_true rfl), (Nat.le_of_ble_eq_true rfl)⟩ dX2_withDatePairs_74 (fun _ _ z => False.elim z) (fun v9 ws9 h23 => ?_)
  obtain ⟨rfl, hw9⟩ := h23
  subst ws9
  dsimp only [mPush]
  refine r_selL hX dX2_withDatePairs_77 dX2_withDatePairs_80 dX2_withDatePairs_81 dX2_withDatePairs_84 ?_
  refine r_callS hX (z_X2_added _ _ _ _) ks_X2_247 rfl rfl (Nat.le_of_ble_eq_true rfl) ⟨(Nat.le_of_ble_eq_true rfl), (Nat.le_of_ble_eq_true rfl)⟩ ⟨(Nat.le_of_ble_eq_true rfl), (Nat.le_of_ble_eq_true rfl)⟩ dX2_withDatePairs_85 (fun _ _ z => False.elim z) (fun v9 ws9 h24 => ?_)
  obtain ⟨rfl, hw9⟩ := h24
  subst ws9
  dsimp only [mPush]
  refine r_lstore_n hX dX2_withDatePairs_88 rfl (by decide) rfl ?_
  refine r_iincZ (z := 1) (y := 3) hX dX2_withDatePairs_89 rfl (by decide) rfl rfl ?_
  refine r_goto (tgt := 18) hX dX2_withDatePairs_92 (by decide) ?_
  refine r_iload hX dX2_withDatePairs_18 rfl ?_
  refine r_aload_n hX dX2_withDatePairs_20 rfl rfl ?_
  refine r_get hX kf_X2_20 0 rfl rfl dX2_withDatePairs_21 ?_
  refine r_alen (v := iZ 4) hX 3 2 rfl rfl rfl dX2_withDatePairs_24 ?_
  refine r_icmp_geZ (tgt := 95) hX dX2_withDatePairs_25 (by decide) (by decide) (by decide) (fun q => absurd q (by decide)) (fun _ => ?_)
  refine r_lload_n hX dX2_withDatePairs_28 rfl rfl ?_
  refine r_aload_n hX dX2_withDatePairs_29 rfl rfl ?_
  refine r_get hX kf_X2_20 0 rfl rfl dX2_withDatePairs_30 ?_
  refine r_iload hX dX2_withDatePairs_33 rfl ?_
  refine r_callS hX (z_X2_at_ok ad cs _ 3 _ 4 0 rfl (by decide) _ 0 (by omega) (by decide)) ks_X2_84 rfl rfl (Nat.le_of_ble_eq_true rfl) ⟨(Nat.le_of_ble_eq_true rfl), (Nat.le_of_ble_eq_true rfl)⟩ ⟨(Nat.le_of_ble_eq_true rfl), (Nat.le_of_ble_eq_true rfl)⟩ dX2_withDatePairs_35 (fun _ _ z => False.elim z) (fun v9 ws9 h25 => ?_)
  obtain ⟨rfl, hw9⟩ := h25
  subst ws9
  dsimp only [mPush]
  refine r_aload_n hX dX2_withDatePairs_38 rfl rfl ?_
  refine r_get hX kf_X2_20 0 rfl rfl dX2_withDatePairs_39 ?_
  refine r_iload hX dX2_withDatePairs_42 rfl ?_
  refine r_callS hX (z_X2_at_ok ad cs _ 3 _ 4 0 rfl (by decide) _ 3 (by omega) (by decide)) ks_X2_84 rfl rfl (Nat.le_of_ble_eq_true rfl) ⟨(Nat.le_of_ble_eq_true rfl), (Nat.le_of_ble_eq_true rfl)⟩ ⟨(Nat.le_of_ble_eq_true rfl), (Nat.le_of_ble_eq_true rfl)⟩ dX2_withDatePairs_44 (fun _ _ z => False.elim z) (fun v9 ws9 h26 => ?_)
  obtain ⟨rfl, hw9⟩ := h26
  subst ws9
  dsimp only [mPush]
  refine r_callV hX (z_X1_orderTo _ _ (0 + 5) _ _ _ _ (zWd_loc (d := 0) (by decide)) (zrg hS (by decide)) (3 + 5) _ _ _ _ (zWd_loc (d := 3) (by decide)) (zrg hS (by decide))) kv_X2_179 (0 + 5) (zWd_loc (d := 0) (by decide)) rfl rfl rfl (Nat.le_of_ble_eq_true rfl) ⟨(Nat.le_of_ble_eq_true rfl), (Nat.le_of_ble_eq_true rfl)⟩ ⟨(Nat.le_of_ble_eq_true rfl), (Nat.le_of_ble_eq_true rfl)⟩ dX2_withDatePairs_47 (fun _ _ z => False.elim z) (fun v9 ws9 h27 => ?_)
  obtain ⟨rfl, hw9⟩ := h27
  subst ws9
  dsimp only [mPush]
  have hb27 := zTo_b (sse S 0) (sna S 0) (sow S 0) (sse S 3) (sna S 3) (sow S 3)
  refine r_i2lZ hX dX2_withDatePairs_50 (by omega) ?_
  refine r_callS hX (z_X2_added _ _ _ _) ks_X2_247 rfl rfl (Nat.le_of_ble_eq_true rfl) ⟨(Nat.le_of_ble_eq_true rfl), (Nat.le_of_ble_eq_true rfl)⟩ ⟨(Nat.le_of_ble_eq_true rfl), (Nat.le_of_ble_eq_true rfl)⟩ dX2_withDatePairs_51 (fun _ _ z => False.elim z) (fun v9 ws9 h28 => ?_)
  obtain ⟨rfl, hw9⟩ := h28
  subst ws9
  dsimp only [mPush]
  refine r_lstore_n hX dX2_withDatePairs_54 rfl (by decide) rfl ?_
  refine r_lload_n hX dX2_withDatePairs_55 rfl rfl ?_
  refine r_aload_n hX dX2_withDatePairs_56 rfl rfl ?_
  refine r_get hX kf_X2_20 0 rfl rfl dX2_withDatePairs_57 ?_
  refine r_iload hX dX2_withDatePairs_60 rfl ?_
  refine r_callS hX (z_X2_at_ok ad cs _ 3 _ 4 0 rfl (by decide) _ 0 (by omega) (by decide)) ks_X2_84 rfl rfl (Nat.le_of_ble_eq_true rfl) ⟨(Nat.le_of_ble_eq_true rfl), (Nat.le_of_ble_eq_true rfl)⟩ ⟨(Nat.le_of_ble_eq_true rfl), (Nat.le_of_ble_eq_true rfl)⟩ dX2_withDatePairs_62 (fun _ _ z => False.elim z) (fun v9 ws9 h29 => ?_)
  obtain ⟨rfl, hw9⟩ := h29
  subst ws9
  dsimp only [mPush]
  refine r_aload_n hX dX2_withDatePairs_65 rfl rfl ?_
  refine r_get hX kf_X2_20 0 rfl rfl dX2_withDatePairs_66 ?_
  refine r_iload hX dX2_withDatePairs_69 rfl ?_
  refine r_callS hX (z_X2_at_ok ad cs _ 3 _ 4 0 rfl (by decide) _ 3 (by omega) (by decide)) ks_X2_84 rfl rfl (Nat.le_of_ble_eq_true rfl) ⟨(Nat.le_of_ble_eq_true rfl), (Nat.le_of_ble_eq_true rfl)⟩ ⟨(Nat.le_of_ble_eq_true rfl), (Nat.le_of_ble_eq_true rfl)⟩ dX2_withDatePairs_71 (fun _ _ z => False.elim z) (fun v9 ws9 h30 => ?_)
  obtain ⟨rfl, hw9⟩ := h30
  subst ws9
  dsimp only [mPush]
  refine r_callV hX (z_X1_isAlike _ _ (0 + 5) _ _ _ _ (zWd_loc (d := 0) (by decide)) (zrg hS (by decide)) (3 + 5) _ _ _ _ (zWd_loc (d := 3) (by decide)) (zrg hS (by decide))) kv_X2_360 (0 + 5) (zWd_loc (d := 0) (by decide)) rfl rfl rfl (Nat.le_of_ble_eq_true rfl) ⟨(Nat.le_of_ble_eq_true rfl), (Nat.le_of_ble_eq_true rfl)⟩ ⟨(Nat.le_of_ble_eq_true rfl), (Nat.le_of_ble_eq_true rfl)⟩ dX2_withDatePairs_74 (fun _ _ z => False.elim z) (fun v9 ws9 h31 => ?_)
  obtain ⟨rfl, hw9⟩ := h31
  subst ws9
  dsimp only [mPush]
  refine r_selL hX dX2_withDatePairs_77 dX2_withDatePairs_80 dX2_withDatePairs_81 dX2_withDatePairs_84 ?_
  refine r_callS hX (z_X2_added _ _ _ _) ks_X2_247 rfl rfl (Nat.le_of_ble_eq_true rfl) ⟨(Nat.le_of_ble_eq_true rfl), (Nat.le_of_ble_eq_true rfl)⟩ ⟨(Nat.le_of_ble_eq_true rfl), (Nat.le_of_ble_eq_true rfl)⟩ dX2_withDatePairs_85 (fun _ _ z => False.elim z) (fun v9 ws9 h32 => ?_)
  obtain ⟨rfl, hw9⟩ := h32
  subst ws9
  dsimp only [mPush]
  refine r_lstore_n hX dX2_withDatePairs_88 rfl (by decide) rfl ?_
  refine r_iincZ (z := 1) (y := 4) hX dX2_withDatePairs_89 rfl (by decide) rfl rfl ?_
  refine r_goto (tgt := 18) hX dX2_withDatePairs_92 (by decide) ?_
  refine r_iload hX dX2_withDatePairs_18 rfl ?_
  refine r_aload_n hX dX2_withDatePairs_20 rfl rfl ?_
  refine r_get hX kf_X2_20 0 rfl rfl dX2_withDatePairs_21 ?_
  refine r_alen (v := iZ 4) hX 3 2 rfl rfl rfl dX2_withDatePairs_24 ?_
  refine r_icmp_geZ (tgt := 95) hX dX2_withDatePairs_25 (by decide) (by decide) (by decide) (fun _ => ?_) (fun q => absurd (by decide) q)
  refine r_iincZ (z := 1) (y := 1) hX dX2_withDatePairs_95 rfl (by decide) rfl rfl ?_
  refine r_goto (tgt := 5) hX dX2_withDatePairs_98 (by decide) ?_
  refine r_iload hX dX2_withDatePairs_5 rfl ?_
  refine r_aload_n hX dX2_withDatePairs_7 rfl rfl ?_
  refine r_get hX kf_X2_20 0 rfl rfl dX2_withDatePairs_8 ?_
  refine r_alen (v := iZ 4) hX 3 2 rfl rfl rfl dX2_withDatePairs_11 ?_
  refine r_icmp_geZ (tgt := 101) hX dX2_withDatePairs_12 (by decide) (by decide) (by decide) (fun q => absurd q (by decide)) (fun _ => ?_)
  refine r_iconstZ hX dX2_withDatePairs_15 ?_
  refine r_istore hX dX2_withDatePairs_16 (by decide) rfl ?_
  refine r_iload hX dX2_withDatePairs_18 rfl ?_
  refine r_aload_n hX dX2_withDatePairs_20 rfl rfl ?_
  refine r_get hX kf_X2_20 0 rfl rfl dX2_withDatePairs_21 ?_
  refine r_alen (v := iZ 4) hX 3 2 rfl rfl rfl dX2_withDatePairs_24 ?_
  refine r_icmp_geZ (tgt := 95) hX dX2_withDatePairs_25 (by decide) (by decide) (by decide) (fun q => absurd q (by decide)) (fun _ => ?_)
  refine r_lload_n hX dX2_withDatePairs_28 rfl rfl ?_
  refine r_aload_n hX dX2_withDatePairs_29 rfl rfl ?_
  refine r_get hX kf_X2_20 0 rfl rfl dX2_withDatePairs_30 ?_
  refine r_iload hX dX2_withDatePairs_33 rfl ?_
  refine r_callS hX (z_X2_at_ok ad cs _ 3 _ 4 0 rfl (by decide) _ 1 (by omega) (by decide)) ks_X2_84 rfl rfl (Nat.le_of_ble_eq_true rfl) ⟨(Nat.le_of_ble_eq_true rfl), (Nat.le_of_ble_eq_true rfl)⟩ ⟨(Nat.le_of_ble_eq_true rfl), (Nat.le_of_ble_eq_true rfl)⟩ dX2_withDatePairs_35 (fun _ _ z => False.elim z) (fun v9 ws9 h33 => ?_)
  obtain ⟨rfl, hw9⟩ := h33
  subst ws9
  dsimp only [mPush]
  refine r_aload_n hX dX2_withDatePairs_38 rfl rfl ?_
  refine r_get hX kf_X2_20 0 rfl rfl dX2_withDatePairs_39 ?_
  refine r_iload hX dX2_withDatePairs_42 rfl ?_
  refine r_callS hX (z_X2_at_ok ad cs _ 3 _ 4 0 rfl (by decide) _ 0 (by omega) (by decide)) ks_X2_84 rfl rfl (Nat.le_of_ble_eq_true rfl) ⟨(Nat.le_of_ble_eq_true rfl), (Nat.le_of_ble_eq_true rfl)⟩ ⟨(Nat.le_of_ble_eq_true rfl), (Nat.le_of_ble_eq_true rfl)⟩ dX2_withDatePairs_44 (fun _ _ z => False.elim z) (fun v9 ws9 h34 => ?_)
  obtain ⟨rfl, hw9⟩ := h34
  subst ws9
  dsimp only [mPush]
  refine r_callV hX (z_X1_orderTo _ _ (1 + 5) _ _ _ _ (zWd_loc (d := 1) (by decide)) (zrg hS (by decide)) (0 + 5) _ _ _ _ (zWd_loc (d := 0) (by decide)) (zrg hS (by decide))) kv_X2_179 (1 + 5) (zWd_loc (d := 1) (by decide)) rfl rfl rfl (Nat.le_of_ble_eq_true rfl) ⟨(Nat.le_of_ble_eq_true rfl), (Nat.le_of_ble_eq_true rfl)⟩ ⟨(Nat.le_of_ble_eq_true rfl), (Nat.le_of_ble_eq_true rfl)⟩ dX2_withDatePairs_47 (fun _ _ z => False.elim z) (fun v9 ws9 h35 => ?_)
  obtain ⟨rfl, hw9⟩ := h35
  subst ws9
  dsimp only [mPush]
  have hb35 := zTo_b (sse S 1) (sna S 1) (sow S 1) (sse S 0) (sna S 0) (sow S 0)
  refine r_i2lZ hX dX2_withDatePairs_50 (by omega) ?_
  refine r_callS hX (z_X2_added _ _ _ _) ks_X2_247 rfl rfl (Nat.le_of_ble_eq_true rfl) ⟨(Nat.le_of_ble_eq_true rfl), (Nat.le_of_ble_eq_true rfl)⟩ ⟨(Nat.le_of_ble_eq_true rfl), (Nat.le_of_ble_eq_true rfl)⟩ dX2_withDatePairs_51 (fun _ _ z => False.elim z) (fun v9 ws9 h36 => ?_)
  obtain ⟨rfl, hw9⟩ := h36
  subst ws9
  dsimp only [mPush]
  refine r_lstore_n hX dX2_withDatePairs_54 rfl (by decide) rfl ?_
  refine r_lload_n hX dX2_withDatePairs_55 rfl rfl ?_
  refine r_aload_n hX dX2_withDatePairs_56 rfl rfl ?_
  refine r_get hX kf_X2_20 0 rfl rfl dX2_withDatePairs_57 ?_
  refine r_iload hX dX2_withDatePairs_60 rfl ?_
  refine r_callS hX (z_X2_at_ok ad cs _ 3 _ 4 0 rfl (by decide) _ 1 (by omega) (by decide)) ks_X2_84 rfl rfl (Nat.le_of_ble_eq_true rfl) ⟨(Nat.le_of_ble_eq_true rfl), (Nat.le_of_ble_eq_true rfl)⟩ ⟨(Nat.le_of_ble_eq_true rfl), (Nat.le_of_ble_eq_true rfl)⟩ dX2_withDatePairs_62 (fun _ _ z => False.elim z) (fun v9 ws9 h37 => ?_)
  obtain ⟨rfl, hw9⟩ := h37
  subst ws9
  dsimp only [mPush]
  refine r_aload_n hX dX2_withDatePairs_65 rfl rfl ?_
  refine r_get hX kf_X2_20 0 rfl rfl dX2_withDatePairs_66 ?_
  refine r_iload hX dX2_withDatePairs_69 rfl ?_
  refine r_callS hX (z_X2_at_ok ad cs _ 3 _ 4 0 rfl (by decide) _ 0 (by omega) (by decide)) ks_X2_84 rfl rfl (Nat.le_of_ble_eq_true rfl) ⟨(Nat.le_of_ble_eq_true rfl), (Nat.le_of_ble_eq_true rfl)⟩ ⟨(Nat.le_of_ble_eq_true rfl), (Nat.le_of_ble_eq_true rfl)⟩ dX2_withDatePairs_71 (fun _ _ z => False.elim z) (fun v9 ws9 h38 => ?_)
  obtain ⟨rfl, hw9⟩ := h38
  subst ws9
  dsimp only [mPush]
  refine r_callV hX (z_X1_isAlike _ _ (1 + 5) _ _ _ _ (zWd_loc (d := 1) (by decide)) (zrg hS (by decide)) (0 + 5) _ _ _ _ (zWd_loc (d := 0) (by decide)) (zrg hS (by decide))) kv_X2_360 (1 + 5) (zWd_loc (d := 1) (by decide)) rfl rfl rfl (Nat.le_of_ble_eq_true rfl) ⟨(Nat.le_of_ble_eq_true rfl), (Nat.le_of_ble_eq_true rfl)⟩ ⟨(Nat.le_of_ble_eq_true rfl), (Nat.le_of_ble_eq_true rfl)⟩ dX2_withDatePairs_74 (fun _ _ z => False.elim z) (fun v9 ws9 h39 => ?_)
  obtain ⟨rfl, hw9⟩ := h39
  subst ws9
  dsimp only [mPush]
  refine r_selL hX dX2_withDatePairs_77 dX2_withDatePairs_80 dX2_withDatePairs_81 dX2_withDatePairs_84 ?_
  refine r_callS hX (z_X2_added _ _ _ _) ks_X2_247 rfl rfl (Nat.le_of_ble_eq_true rfl) ⟨(Nat.le_of_ble_eq_true rfl), (Nat.le_of_ble_eq_true rfl)⟩ ⟨(Nat.le_of_ble_eq_true rfl), (Nat.le_of_ble_eq_true rfl)⟩ dX2_withDatePairs_85 (fun _ _ z => False.elim z) (fun v9 ws9 h40 => ?_)
  obtain ⟨rfl, hw9⟩ := h40
  subst ws9
  dsimp only [mPush]
  refine r_lstore_n hX dX2_withDatePairs_88 rfl (by decide) rfl ?_
  refine r_iincZ (z := 1) (y := 1) hX dX2_withDatePairs_89 rfl (by decide) rfl rfl ?_
  refine r_goto (tgt := 18) hX dX2_withDatePairs_92 (by decide) ?_
  refine r_iload hX dX2_withDatePairs_18 rfl ?_
  refine r_aload_n hX dX2_withDatePairs_20 rfl rfl ?_
  refine r_get hX kf_X2_20 0 rfl rfl dX2_withDatePairs_21 ?_
  refine r_alen (v := iZ 4) hX 3 2 rfl rfl rfl dX2_withDatePairs_24 ?_
  refine r_icmp_geZ (tgt := 95) hX dX2_withDatePairs_25 (by decide) (by decide) (by decide) (fun q => absurd q (by decide)) (fun _ => ?_)
  refine r_lload_n hX dX2_withDatePairs_28 rfl rfl ?_
  refine r_aload_n hX dX2_withDatePairs_29 rfl rfl ?_
  refine r_get hX kf_X2_20 0 rfl rfl dX2_withDatePairs_30 ?_
  refine r_iload hX dX2_withDatePairs_33 rfl ?_
  refine r_callS hX (z_X2_at_ok ad cs _ 3 _ 4 0 rfl (by decide) _ 1 (by omega) (by decide)) ks_X2_84 rfl rfl (Nat.le_of_ble_eq_true rfl) ⟨(Nat.le_of_ble_eq_true rfl), (Nat.le_of_ble_eq_true rfl)⟩ ⟨(Nat.le_of_ble_eq_true rfl), (Nat.le_of_ble_eq_true rfl)⟩ dX2_withDatePairs_35 (fun _ _ z => False.elim z) (fun v9 ws9 h41 => ?_)
  obtain ⟨rfl, hw9⟩ := h41
  subst ws9
  dsimp only [mPush]
  refine r_aload_n hX dX2_withDatePairs_38 rfl rfl ?_
  refine r_get hX kf_X2_20 0 rfl rfl dX2_withDatePairs_39 ?_
  refine r_iload hX dX2_withDatePairs_42 rfl ?_
  refine r_callS hX (z_X2_at_ok ad cs _ 3 _ 4 0 rfl (by decide) _ 1 (by omega) (by decide)) ks_X2_84 rfl rfl (Nat.le_of_ble_eq_true rfl) ⟨(Nat.le_of_ble_eq_true rfl), (Nat.le_of_ble_eq_true rfl)⟩ ⟨(Nat.le_of_ble_eq_true rfl), (Nat.le_of_ble_eq_true rfl)⟩ dX2_withDatePairs_44 (fun _ _ z => False.elim z) (fun v9 ws9 h42 => ?_)
  obtain ⟨rfl, hw9⟩ := h42
  subst ws9
  dsimp only [mPush]
  refine r_callV hX (z_X1_orderTo _ _ (1 + 5) _ _ _ _ (zWd_loc (d := 1) (by decide)) (zrg hS (by decide)) (1 + 5) _ _ _ _ (zWd_loc (d := 1) (by decide)) (zrg hS (by decide))) kv_X2_179 (1 + 5) (zWd_loc (d := 1) (by decide)) rfl rfl rfl (Nat.le_of_ble_eq_true rfl) ⟨(Nat.le_of_ble_eq_true rfl), (Nat.le_of_ble_eq_true rfl)⟩ ⟨(Nat.le_of_ble_eq_true rfl), (Nat.le_of_ble_eq_true rfl)⟩ dX2_withDatePairs_47 (fun _ _ z => False.elim z) (fun v9 ws9 h43 => ?_)
  obtain ⟨rfl, hw9⟩ := h43
  subst ws9
  dsimp only [mPush]
  have hb43 := zTo_b (sse S 1) (sna S 1) (sow S 1) (sse S 1) (sna S 1) (sow S 1)
  refine r_i2lZ hX dX2_withDatePairs_50 (by omega) ?_
  refine r_callS hX (z_X2_added _ _ _ _) ks_X2_247 rfl rfl (Nat.le_of_ble_eq_true rfl) ⟨(Nat.le_of_ble_eq_true rfl), (Nat.le_of_ble_eq_true rfl)⟩ ⟨(Nat.le_of_ble_eq_true rfl), (Nat.le_of_ble_eq_true rfl)⟩ dX2_withDatePairs_51 (fun _ _ z => False.elim z) (fun v9 ws9 h44 => ?_)
  obtain ⟨rfl, hw9⟩ := h44
  subst ws9
  dsimp only [mPush]
  refine r_lstore_n hX dX2_withDatePairs_54 rfl (by decide) rfl ?_
  refine r_lload_n hX dX2_withDatePairs_55 rfl rfl ?_
  refine r_aload_n hX dX2_withDatePairs_56 rfl rfl ?_
  refine r_get hX kf_X2_20 0 rfl rfl dX2_withDatePairs_57 ?_
  refine r_iload hX dX2_withDatePairs_60 rfl ?_
  refine r_callS hX (z_X2_at_ok ad cs _ 3 _ 4 0 rfl (by decide) _ 1 (by omega) (by decide)) ks_X2_84 rfl rfl (Nat.le_of_ble_eq_true rfl) ⟨(Nat.le_of_ble_eq_true rfl), (Nat.le_of_ble_eq_true rfl)⟩ ⟨(Nat.le_of_ble_eq_true rfl), (Nat.le_of_ble_eq_true rfl)⟩ dX2_withDatePairs_62 (fun _ _ z => False.elim z) (fun v9 ws9 h45 => ?_)
  obtain ⟨rfl, hw9⟩ := h45
  subst ws9
  dsimp only [mPush]
  refine r_aload_n hX dX2_withDatePairs_65 rfl rfl ?_
  refine r_get hX kf_X2_20 0 rfl rfl dX2_withDatePairs_66 ?_
  refine r_iload hX dX2_withDatePairs_69 rfl ?_
  refine r_callS hX (z_X2_at_ok ad cs _ 3 _ 4 0 rfl (by decide) _ 1 (by omega) (by decide)) ks_X2_84 rfl rfl (Nat.le_of_ble_eq_true rfl) ⟨(Nat.le_of_ble_eq_true rfl), (Nat.le_of_ble_eq_true rfl)⟩ ⟨(Nat.le_of_ble_eq_true rfl), (Nat.le_of_ble_eq_true rfl)⟩ dX2_withDatePairs_71 (fun _ _ z => False.elim z) (fun v9 ws9 h46 => ?_)
  obtain ⟨rfl, hw9⟩ := h46
  subst ws9
  dsimp only [mPush]
  refine r_callV hX (z_X1_isAlike _ _ (1 + 5) _ _ _ _ (zWd_loc (d := 1) (by decide)) (zrg hS (by decide)) (1 + 5) _ _ _ _ (zWd_loc (d := 1) (by decide)) (zrg hS (by decide))) kv_X2_360 (1 + 5) (zWd_loc (d := 1) (by decide)) rfl rfl rfl (Nat.le_of_ble_eq_true rfl) ⟨(Nat.le_of_ble_eq_true rfl), (Nat.le_of_ble_eq_true rfl)⟩ ⟨(Nat.le_of_ble_eq_true rfl), (Nat.le_of_ble_eq_true rfl)⟩ dX2_withDatePairs_74 (fun _ _ z => False.elim z) (fun v9 ws9 h47 => ?_)
  obtain ⟨rfl, hw9⟩ := h47
  subst ws9
  dsimp only [mPush]
  refine r_selL hX dX2_withDatePairs_77 dX2_withDatePairs_80 dX2_withDatePairs_81 dX2_withDatePairs_84 ?_
  refine r_callS hX (z_X2_added _ _ _ _) ks_X2_247 rfl rfl (Nat.le_of_ble_eq_true rfl) ⟨(Nat.le_of_ble_eq_true rfl), (Nat.le_of_ble_eq_true rfl)⟩ ⟨(Nat.le_of_ble_eq_true rfl), (Nat.le_of_ble_eq_true rfl)⟩ dX2_withDatePairs_85 (fun _ _ z => False.elim z) (fun v9 ws9 h48 => ?_)
  obtain ⟨rfl, hw9⟩ := h48
  subst ws9
  dsimp only [mPush]
  refine r_lstore_n hX dX2_withDatePairs_88 rfl (by decide) rfl ?_
  refine r_iincZ (z := 1) (y := 2) hX dX2_withDatePairs_89 rfl (by decide) rfl rfl ?_
  refine r_goto (tgt := 18) hX dX2_withDatePairs_92 (by decide) ?_
  refine r_iload hX dX2_withDatePairs_18 rfl ?_
  refine r_aload_n hX dX2_withDatePairs_20 rfl rfl ?_
  refine r_get hX kf_X2_20 0 rfl rfl dX2_withDatePairs_21 ?_
  refine r_alen (v := iZ 4) hX 3 2 rfl rfl rfl dX2_withDatePairs_24 ?_
  refine r_icmp_geZ (tgt := 95) hX dX2_withDatePairs_25 (by decide) (by decide) (by decide) (fun q => absurd q (by decide)) (fun _ => ?_)
  refine r_lload_n hX dX2_withDatePairs_28 rfl rfl ?_
  refine r_aload_n hX dX2_withDatePairs_29 rfl rfl ?_
  refine r_get hX kf_X2_20 0 rfl rfl dX2_withDatePairs_30 ?_
  refine r_iload hX dX2_withDatePairs_33 rfl ?_
  refine r_callS hX (z_X2_at_ok ad cs _ 3 _ 4 0 rfl (by decide) _ 1 (by omega) (by decide)) ks_X2_84 rfl rfl (Nat.le_of_ble_eq_true rfl) ⟨(Nat.le_of_ble_eq_true rfl), (Nat.le_of_ble_eq_true rfl)⟩ ⟨(Nat.le_of_ble_eq_true rfl), (Nat.le_of_ble_eq_true rfl)⟩ dX2_withDatePairs_35 (fun _ _ z => False.elim z) (fun v9 ws9 h49 => ?_)
  obtain ⟨rfl, hw9⟩ := h49
  subst ws9
  dsimp only [mPush]
  refine r_aload_n hX dX2_withDatePairs_38 rfl rfl ?_
  refine r_get hX kf_X2_20 0 rfl rfl dX2_withDatePairs_39 ?_
  refine r_iload hX dX2_withDatePairs_42 rfl ?_
  refine r_callS hX (z_X2_at_ok ad cs _ 3 _ 4 0 rfl (by decide) _ 2 (by omega) (by decide)) ks_X2_84 rfl rfl (Nat.le_of_ble_eq_true rfl) ⟨(Nat.le_of_ble_eq_true rfl), (Nat.le_of_ble_eq_true rfl)⟩ ⟨(Nat.le_of_ble_eq_true rfl), (Nat.le_of_ble_eq_true rfl)⟩ dX2_withDatePairs_44 (fun _ _ z => False.elim z) (fun v9 ws9 h50 => ?_)
  obtain ⟨rfl, hw9⟩ := h50
  subst ws9
  dsimp only [mPush]
  refine r_callV hX (z_X1_orderTo _ _ (1 + 5) _ _ _ _ (zWd_loc (d := 1) (by decide)) (zrg hS (by decide)) (2 + 5) _ _ _ _ (zWd_loc (d := 2) (by decide)) (zrg hS (by decide))) kv_X2_179 (1 + 5) (zWd_loc (d := 1) (by decide)) rfl rfl rfl (Nat.le_of_ble_eq_true rfl) ⟨(Nat.le_of_ble_eq_true rfl), (Nat.le_of_ble_eq_true rfl)⟩ ⟨(Nat.le_of_ble_eq_true rfl), (Nat.le_of_ble_eq_true rfl)⟩ dX2_withDatePairs_47 (fun _ _ z => False.elim z) (fun v9 ws9 h51 => ?_)
  obtain ⟨rfl, hw9⟩ := h51
  subst ws9
  dsimp only [mPush]
  have hb51 := zTo_b (sse S 1) (sna S 1) (sow S 1) (sse S 2) (sna S 2) (sow S 2)
  refine r_i2lZ hX dX2_withDatePairs_50 (by omega) ?_
  refine r_callS hX (z_X2_added _ _ _ _) ks_X2_247 rfl rfl (Nat.le_of_ble_eq_true rfl) ⟨(Nat.le_of_ble_eq_true rfl), (Nat.le_of_ble_eq_true rfl)⟩ ⟨(Nat.le_of_ble_eq_true rfl), (Nat.le_of_ble_eq_true rfl)⟩ dX2_withDatePairs_51 (fun _ _ z => False.elim z) (fun v9 ws9 h52 => ?_)
  obtain ⟨rfl, hw9⟩ := h52
  subst ws9
  dsimp only [mPush]
  refine r_lstore_n hX dX2_withDatePairs_54 rfl (by decide) rfl ?_
  refine r_lload_n hX dX2_withDatePairs_55 rfl rfl ?_
  refine r_aload_n hX dX2_withDatePairs_56 rfl rfl ?_
  refine r_get hX kf_X2_20 0 rfl rfl dX2_withDatePairs_57 ?_
  refine r_iload hX dX2_withDatePairs_60 rfl ?_
  refine r_callS hX (z_X2_at_ok ad cs _ 3 _ 4 0 rfl (by decide) _ 1 (by omega) (by decide)) ks_X2_84 rfl rfl (Nat.le_of_ble_eq_true rfl) ⟨(Nat.le_of_ble_eq_true rfl), (Nat.le_of_ble_eq_true rfl)⟩ ⟨(Nat.le_of_ble_eq_true rfl), (Nat.le_of_ble_eq_true rfl)⟩ dX2_withDatePairs_62 (fun _ _ z => False.elim z) (fun v9 ws9 h53 => ?_)
  obtain ⟨rfl, hw9⟩ := h53
  subst ws9
  dsimp only [mPush]
  refine r_aload_n hX dX2_withDatePairs_65 rfl rfl ?_
  refine r_get hX kf_X2_20 0 rfl rfl dX2_withDatePairs_66 ?_
  refine r_iload hX dX2_withDatePairs_69 rfl ?_
  refine r_callS hX (z_X2_at_ok ad cs _ 3 _ 4 0 rfl (by decide) _ 2 (by omega) (by decide)) ks_X2_84 rfl rfl (Nat.le_of_ble_eq_true rfl) ⟨(Nat.le_of_ble_eq_true rfl), (Nat.le_of_ble_eq_true rfl)⟩ ⟨(Nat.le_of_ble_eq_true rfl), (Nat.le_of_ble_eq_true rfl)⟩ dX2_withDatePairs_71 (fun _ _ z => False.elim z) (fun v9 ws9 h54 => ?_)
  obtain ⟨rfl, hw9⟩ := h54
  subst ws9
  dsimp only [mPush]
  refine r_callV hX (z_X1_isAlike _ _ (1 + 5) _ _ _ _ (zWd_loc (d := 1) (by decide)) (zrg hS (by decide)) (2 + 5) _ _ _ _ (zWd_loc (d := 2) (by decide)) (zrg hS (by decide))) kv_X2_360 (1 + 5) (zWd_loc (d := 1) (by decide)) rfl rfl rfl (Nat.le_of_ble_eq_true rfl) ⟨(Nat.le_of_ble_eq_true rfl), (Nat.le_of_ble_eq_true rfl)⟩ ⟨(Nat.le_of_ble_eq_true rfl), (Nat.le_of_ble_eq_true rfl)⟩ dX2_withDatePairs_74 (fun _ _ z => False.elim z) (fun v9 ws9 h55 => ?_)
  obtain ⟨rfl, hw9⟩ := h55
  subst ws9
  dsimp only [mPush]
  refine r_selL hX dX2_withDatePairs_77 dX2_withDatePairs_80 dX2_withDatePairs_81 dX2_withDatePairs_84 ?_
  refine r_callS hX (z_X2_added _ _ _ _) ks_X2_247 rfl rfl (Nat.le_of_ble_eq_true rfl) ⟨(Nat.le_of_ble_eq_true rfl), (Nat.le_of_ble_eq_true rfl)⟩ ⟨(Nat.le_of_ble_eq_true rfl), (Nat.le_of_ble_eq_true rfl)⟩ dX2_withDatePairs_85 (fun _ _ z => False.elim z) (fun v9 ws9 h56 => ?_)
  obtain ⟨rfl, hw9⟩ := h56
  subst ws9
  dsimp only [mPush]
  refine r_lstore_n hX dX2_withDatePairs_88 rfl (by decide) rfl ?_
  refine r_iincZ (z := 1) (y := 3) hX dX2_withDatePairs_89 rfl (by decide) rfl rfl ?_
  refine r_goto (tgt := 18) hX dX2_withDatePairs_92 (by decide) ?_
  refine r_iload hX dX2_withDatePairs_18 rfl ?_
  refine r_aload_n hX dX2_withDatePairs_20 rfl rfl ?_
  refine r_get hX kf_X2_20 0 rfl rfl dX2_withDatePairs_21 ?_
  refine r_alen (v := iZ 4) hX 3 2 rfl rfl rfl dX2_withDatePairs_24 ?_
  refine r_icmp_geZ (tgt := 95) hX dX2_withDatePairs_25 (by decide) (by decide) (by decide) (fun q => absurd q (by decide)) (fun _ => ?_)
  refine r_lload_n hX dX2_withDatePairs_28 rfl rfl ?_
  refine r_aload_n hX dX2_withDatePairs_29 rfl rfl ?_
  refine r_get hX kf_X2_20 0 rfl rfl dX2_withDatePairs_30 ?_
  refine r_iload hX dX2_withDatePairs_33 rfl ?_
  refine r_callS hX (z_X2_at_ok ad cs _ 3 _ 4 0 rfl (by decide) _ 1 (by omega) (by decide)) ks_X2_84 rfl rfl (Nat.le_of_ble_eq_true rfl) ⟨(Nat.le_of_ble_eq_true rfl), (Nat.le_of_ble_eq_true rfl)⟩ ⟨(Nat.le_of_ble_eq_true rfl), (Nat.le_of_ble_eq_true rfl)⟩ dX2_withDatePairs_35 (fun _ _ z => False.elim z) (fun v9 ws9 h57 => ?_)
  obtain ⟨rfl, hw9⟩ := h57
  subst ws9
  dsimp only [mPush]
  refine r_aload_n hX dX2_withDatePairs_38 rfl rfl ?_
  refine r_get hX kf_X2_20 0 rfl rfl dX2_withDatePairs_39 ?_
  refine r_iload hX dX2_withDatePairs_42 rfl ?_
  refine r_callS hX (z_X2_at_ok ad cs _ 3 _ 4 0 rfl (by decide) _ 3 (by omega) (by decide)) ks_X2_84 rfl rfl (Nat.le_of_ble_eq_true rfl) ⟨(Nat.le_of_ble_eq_true rfl), (Nat.le_of_ble_eq_true rfl)⟩ ⟨(Nat.le_of_ble_eq_true rfl), (Nat.le_of_ble_eq_true rfl)⟩ dX2_withDatePairs_44 (fun _ _ z => False.elim z) (fun v9 ws9 h58 => ?_)
  obtain ⟨rfl, hw9⟩ := h58
  subst ws9
  dsimp only [mPush]
  refine r_callV hX (z_X1_orderTo _ _ (1 + 5) _ _ _ _ (zWd_loc (d := 1) (by decide)) (zrg hS (by decide)) (3 + 5) _ _ _ _ (zWd_loc (d := 3) (by decide)) (zrg hS (by decide))) kv_X2_179 (1 + 5) (zWd_loc (d := 1) (by decide)) rfl rfl rfl (Nat.le_of_ble_eq_true rfl) ⟨(Nat.le_of_ble_eq_true rfl), (Nat.le_of_ble_eq_true rfl)⟩ ⟨(Nat.le_of_ble_eq_true rfl), (Nat.le_of_ble_eq_true rfl)⟩ dX2_withDatePairs_47 (fun _ _ z => False.elim z) (fun v9 ws9 h59 => ?_)
  obtain ⟨rfl, hw9⟩ := h59
  subst ws9
  dsimp only [mPush]
  have hb59 := zTo_b (sse S 1) (sna S 1) (sow S 1) (sse S 3) (sna S 3) (sow S 3)
  refine r_i2lZ hX dX2_withDatePairs_50 (by omega) ?_
  refine r_callS hX (z_X2_added _ _ _ _) ks_X2_247 rfl rfl (Nat.le_of_ble_eq_true rfl) ⟨(Nat.le_of_ble_eq_true rfl), (Nat.le_of_ble_eq_true rfl)⟩ ⟨(Nat.le_of_ble_eq_true rfl), (Nat.le_of_ble_eq_true rfl)⟩ dX2_withDatePairs_51 (fun _ _ z => False.elim z) (fun v9 ws9 h60 => ?_)
  obtain ⟨rfl, hw9⟩ := h60
  subst ws9
  dsimp only [mPush]
  refine r_lstore_n hX dX2_withDatePairs_54 rfl (by decide) rfl ?_
  refine r_lload_n hX dX2_withDatePairs_55 rfl rfl ?_
  refine r_aload_n hX dX2_withDatePairs_56 rfl rfl ?_
  refine r_get hX kf_X2_20 0 rfl rfl dX2_withDatePairs_57 ?_
  refine r_iload hX dX2_withDatePairs_60 rfl ?_
  refine r_callS hX (z_X2_at_ok ad cs _ 3 _ 4 0 rfl (by decide) _ 1 (by omega) (by decide)) ks_X2_84 rfl rfl (Nat.le_of_ble_eq_true rfl) ⟨(Nat.le_of_ble_eq_true rfl), (Nat.le_of_ble_eq_true rfl)⟩ ⟨(Nat.le_of_ble_eq_true rfl), (Nat.le_of_ble_eq_true rfl)⟩ dX2_withDatePairs_62 (fun _ _ z => False.elim z) (fun v9 ws9 h61 => ?_)
  obtain ⟨rfl, hw9⟩ := h61
  subst ws9
  dsimp only [mPush]
  refine r_aload_n hX dX2_withDatePairs_65 rfl rfl ?_
  refine r_get hX kf_X2_20 0 rfl rfl dX2_withDatePairs_66 ?_
  refine r_iload hX dX2_withDatePairs_69 rfl ?_
  refine r_callS hX (z_X2_at_ok ad cs _ 3 _ 4 0 rfl (by decide) _ 3 (by omega) (by decide)) ks_X2_84 rfl rfl (Nat.le_of_ble_eq_true rfl) ⟨(Nat.le_of_ble_eq_true rfl), (Nat.le_of_ble_eq_true rfl)⟩ ⟨(Nat.le_of_ble_eq_true rfl), (Nat.le_of_ble_eq_true rfl)⟩ dX2_withDatePairs_71 (fun _ _ z => False.elim z) (fun v9 ws9 h62 => ?_)
  obtain ⟨rfl, hw9⟩ := h62
  subst ws9
  dsimp only [mPush]
  refine r_callV hX (z_X1_isAlike _ _ (1 + 5) _ _ _ _ (zWd_loc (d := 1) (by decide)) (zrg hS (by decide)) (3 + 5) _ _ _ _ (zWd_loc (d := 3) (by decide)) (zrg hS (by decide))) kv_X2_360 (1 + 5) (zWd_loc (d := 1) (by decide)) rfl rfl rfl (Nat.le_of_ble_eq_true rfl) ⟨(Nat.le_of_ble_eq_true rfl), (Nat.le_of_ble_eq_true rfl)⟩ ⟨(Nat.le_of_ble_eq_true rfl), (Nat.le_of_ble_eq_true rfl)⟩ dX2_withDatePairs_74 (fun _ _ z => False.elim z) (fun v9 ws9 h63 => ?_)
  obtain ⟨rfl, hw9⟩ := h63
  subst ws9
  dsimp only [mPush]
  refine r_selL hX dX2_withDatePairs_77 dX2_withDatePairs_80 dX2_withDatePairs_81 dX2_withDatePairs_84 ?_
  refine r_callS hX (z_X2_added _ _ _ _) ks_X2_247 rfl rfl (Nat.le_of_ble_eq_true rfl) ⟨(Nat.le_of_ble_eq_true rfl), (Nat.le_of_ble_eq_true rfl)⟩ ⟨(Nat.le_of_ble_eq_true rfl), (Nat.le_of_ble_eq_true rfl)⟩ dX2_withDatePairs_85 (fun _ _ z => False.elim z) (fun v9 ws9 h64 => ?_)
  obtain ⟨rfl, hw9⟩ := h64
  subst ws9
  dsimp only [mPush]
  refine r_lstore_n hX dX2_withDatePairs_88 rfl (by decide) rfl ?_
  refine r_iincZ (z := 1) (y := 4) hX dX2_withDatePairs_89 rfl (by decide) rfl rfl ?_
  refine r_goto (tgt := 18) hX dX2_withDatePairs_92 (by decide) ?_
  refine r_iload hX dX2_withDatePairs_18 rfl ?_
  refine r_aload_n hX dX2_withDatePairs_20 rfl rfl ?_
  refine r_get hX kf_X2_20 0 rfl rfl dX2_withDatePairs_21 ?_
  refine r_alen (v := iZ 4) hX 3 2 rfl rfl rfl dX2_withDatePairs_24 ?_
  refine r_icmp_geZ (tgt := 95) hX dX2_withDatePairs_25 (by decide) (by decide) (by decide) (fun _ => ?_) (fun q => absurd (by decide) q)
  refine r_iincZ (z := 1) (y := 2) hX dX2_withDatePairs_95 rfl (by decide) rfl rfl ?_
  refine r_goto (tgt := 5) hX dX2_withDatePairs_98 (by decide) ?_
  refine r_iload hX dX2_withDatePairs_5 rfl ?_
  refine r_aload_n hX dX2_withDatePairs_7 rfl rfl ?_
  refine r_get hX kf_X2_20 0 rfl rfl dX2_withDatePairs_8 ?_
  refine r_alen (v := iZ 4) hX 3 2 rfl rfl rfl dX2_withDatePairs_11 ?_
  refine r_icmp_geZ (tgt := 101) hX dX2_withDatePairs_12 (by decide) (by decide) (by decide) (fun q => absurd q (by decide)) (fun _ => ?_)
  refine r_iconstZ hX dX2_withDatePairs_15 ?_
  refine r_istore hX dX2_withDatePairs_16 (by decide) rfl ?_
  refine r_iload hX dX2_withDatePairs_18 rfl ?_
  refine r_aload_n hX dX2_withDatePairs_20 rfl rfl ?_
  refine r_get hX kf_X2_20 0 rfl rfl dX2_withDatePairs_21 ?_
  refine r_alen (v := iZ 4) hX 3 2 rfl rfl rfl dX2_withDatePairs_24 ?_
  refine r_icmp_geZ (tgt := 95) hX dX2_withDatePairs_25 (by decide) (by decide) (by decide) (fun q => absurd q (by decide)) (fun _ => ?_)
  refine r_lload_n hX dX2_withDatePairs_28 rfl rfl ?_
  refine r_aload_n hX dX2_withDatePairs_29 rfl rfl ?_
  refine r_get hX kf_X2_20 0 rfl rfl dX2_withDatePairs_30 ?_
  refine r_iload hX dX2_withDatePairs_33 rfl ?_
  refine r_callS hX (z_X2_at_ok ad cs _ 3 _ 4 0 rfl (by decide) _ 2 (by omega) (by decide)) ks_X2_84 rfl rfl (Nat.le_of_ble_eq_true rfl) ⟨(Nat.le_of_ble_eq_true rfl), (Nat.le_of_ble_eq_true rfl)⟩ ⟨(Nat.le_of_ble_eq_true rfl), (Nat.le_of_ble_eq_true rfl)⟩ dX2_withDatePairs_35 (fun _ _ z => False.elim z) (fun v9 ws9 h65 => ?_)
  obtain ⟨rfl, hw9⟩ := h65
  subst ws9
  dsimp only [mPush]
  refine r_aload_n hX dX2_withDatePairs_38 rfl rfl ?_
  refine r_get hX kf_X2_20 0 rfl rfl dX2_withDatePairs_39 ?_
  refine r_iload hX dX2_withDatePairs_42 rfl ?_
  refine r_callS hX (z_X2_at_ok ad cs _ 3 _ 4 0 rfl (by decide) _ 0 (by omega) (by decide)) ks_X2_84 rfl rfl (Nat.le_of_ble_eq_true rfl) ⟨(Nat.le_of_ble_eq_true rfl), (Nat.le_of_ble_eq_true rfl)⟩ ⟨(Nat.le_of_ble_eq_true rfl), (Nat.le_of_ble_eq_true rfl)⟩ dX2_withDatePairs_44 (fun _ _ z => False.elim z) (fun v9 ws9 h66 => ?_)
  obtain ⟨rfl, hw9⟩ := h66
  subst ws9
  dsimp only [mPush]
  refine r_callV hX (z_X1_orderTo _ _ (2 + 5) _ _ _ _ (zWd_loc (d := 2) (by decide)) (zrg hS (by decide)) (0 + 5) _ _ _ _ (zWd_loc (d := 0) (by decide)) (zrg hS (by decide))) kv_X2_179 (2 + 5) (zWd_loc (d := 2) (by decide)) rfl rfl rfl (Nat.le_of_ble_eq_true rfl) ⟨(Nat.le_of_ble_eq_true rfl), (Nat.le_of_ble_eq_true rfl)⟩ ⟨(Nat.le_of_ble_eq_true rfl), (Nat.le_of_ble_eq_true rfl)⟩ dX2_withDatePairs_47 (fun _ _ z => False.elim z) (fun v9 ws9 h67 => ?_)
  obtain ⟨rfl, hw9⟩ := h67
  subst ws9
  dsimp only [mPush]
  have hb67 := zTo_b (sse S 2) (sna S 2) (sow S 2) (sse S 0) (sna S 0) (sow S 0)
  refine r_i2lZ hX dX2_withDatePairs_50 (by omega) ?_
  refine r_callS hX (z_X2_added _ _ _ _) ks_X2_247 rfl rfl (Nat.le_of_ble_eq_true rfl) ⟨(Nat.le_of_ble_eq_true rfl), (Nat.le_of_ble_eq_true rfl)⟩ ⟨(Nat.le_of_ble_eq_true rfl), (Nat.le_of_ble_eq_true rfl)⟩ dX2_withDatePairs_51 (fun _ _ z => False.elim z) (fun v9 ws9 h68 => ?_)
  obtain ⟨rfl, hw9⟩ := h68
  subst ws9
  dsimp only [mPush]
  refine r_lstore_n hX dX2_withDatePairs_54 rfl (by decide) rfl ?_
  refine r_lload_n hX dX2_withDatePairs_55 rfl rfl ?_
  refine r_aload_n hX dX2_withDatePairs_56 rfl rfl ?_
  refine r_get hX kf_X2_20 0 rfl rfl dX2_withDatePairs_57 ?_
  refine r_iload hX dX2_withDatePairs_60 rfl ?_
  refine r_callS hX (z_X2_at_ok ad cs _ 3 _ 4 0 rfl (by decide) _ 2 (by omega) (by decide)) ks_X2_84 rfl rfl (Nat.le_of_ble_eq_true rfl) ⟨(Nat.le_of_ble_eq_true rfl), (Nat.le_of_ble_eq_true rfl)⟩ ⟨(Nat.le_of_ble_eq_true rfl), (Nat.le_of_ble_eq_true rfl)⟩ dX2_withDatePairs_62 (fun _ _ z => False.elim z) (fun v9 ws9 h69 => ?_)
  obtain ⟨rfl, hw9⟩ := h69
  subst ws9
  dsimp only [mPush]
  refine r_aload_n hX dX2_withDatePairs_65 rfl rfl ?_
  refine r_get hX kf_X2_20 0 rfl rfl dX2_withDatePairs_66 ?_
  refine r_iload hX dX2_withDatePairs_69 rfl ?_
  refine r_callS hX (z_X2_at_ok ad cs _ 3 _ 4 0 rfl (by decide) _ 0 (by omega) (by decide)) ks_X2_84 rfl rfl (Nat.le_of_ble_eq_true rfl) ⟨(Nat.le_of_ble_eq_true rfl), (Nat.le_of_ble_eq_true rfl)⟩ ⟨(Nat.le_of_ble_eq_true rfl), (Nat.le_of_ble_eq_true rfl)⟩ dX2_withDatePairs_71 (fun _ _ z => False.elim z) (fun v9 ws9 h70 => ?_)
  obtain ⟨rfl, hw9⟩ := h70
  subst ws9
  dsimp only [mPush]
  refine r_callV hX (z_X1_isAlike _ _ (2 + 5) _ _ _ _ (zWd_loc (d := 2) (by decide)) (zrg hS (by decide)) (0 + 5) _ _ _ _ (zWd_loc (d := 0) (by decide)) (zrg hS (by decide))) kv_X2_360 (2 + 5) (zWd_loc (d := 2) (by decide)) rfl rfl rfl (Nat.le_of_ble_eq_true rfl) ⟨(Nat.le_of_ble_eq_true rfl), (Nat.le_of_ble_eq_true rfl)⟩ ⟨(Nat.le_of_ble_eq_true rfl), (Nat.le_of_ble_eq_true rfl)⟩ dX2_withDatePairs_74 (fun _ _ z => False.elim z) (fun v9 ws9 h71 => ?_)
  obtain ⟨rfl, hw9⟩ := h71
  subst ws9
  dsimp only [mPush]
  refine r_selL hX dX2_withDatePairs_77 dX2_withDatePairs_80 dX2_withDatePairs_81 dX2_withDatePairs_84 ?_
  refine r_callS hX (z_X2_added _ _ _ _) ks_X2_247 rfl rfl (Nat.le_of_ble_eq_true rfl) ⟨(Nat.le_of_ble_eq_true rfl), (Nat.le_of_ble_eq_true rfl)⟩ ⟨(Nat.le_of_ble_eq_true rfl), (Nat.le_of_ble_eq_true rfl)⟩ dX2_withDatePairs_85 (fun _ _ z => False.elim z) (fun v9 ws9 h72 => ?_)
  obtain ⟨rfl, hw9⟩ := h72
  subst ws9
  dsimp only [mPush]
  refine r_lstore_n hX dX2_withDatePairs_88 rfl (by decide) rfl ?_
  refine r_iincZ (z := 1) (y := 1) hX dX2_withDatePairs_89 rfl (by decide) rfl rfl ?_
  refine r_goto (tgt := 18) hX dX2_withDatePairs_92 (by decide) ?_
  refine r_iload hX dX2_withDatePairs_18 rfl ?_
  refine r_aload_n hX dX2_withDatePairs_20 rfl rfl ?_
  refine r_get hX kf_X2_20 0 rfl rfl dX2_withDatePairs_21 ?_
  refine r_alen (v := iZ 4) hX 3 2 rfl rfl rfl dX2_withDatePairs_24 ?_
  refine r_icmp_geZ (tgt := 95) hX dX2_withDatePairs_25 (by decide) (by decide) (by decide) (fun q => absurd q (by decide)) (fun _ => ?_)
  refine r_lload_n hX dX2_withDatePairs_28 rfl rfl ?_
  refine r_aload_n hX dX2_withDatePairs_29 rfl rfl ?_
  refine r_get hX kf_X2_20 0 rfl rfl dX2_withDatePairs_30 ?_
  refine r_iload hX dX2_withDatePairs_33 rfl ?_
  refine r_callS hX (z_X2_at_ok ad cs _ 3 _ 4 0 rfl (by decide) _ 2 (by omega) (by decide)) ks_X2_84 rfl rfl (Nat.le_of_ble_eq_true rfl) ⟨(Nat.le_of_ble_eq_true rfl), (Nat.le_of_ble_eq_true rfl)⟩ ⟨(Nat.le_of_ble_eq_true rfl), (Nat.le_of_ble_eq_true rfl)⟩ dX2_withDatePairs_35 (fun _ _ z => False.elim z) (fun v9 ws9 h73 => ?_)
  obtain ⟨rfl, hw9⟩ := h73
  subst ws9
  dsimp only [mPush]
  refine r_aload_n hX dX2_withDatePairs_38 rfl rfl ?_
  refine r_get hX kf_X2_20 0 rfl rfl dX2_withDatePairs_39 ?_
  refine r_iload hX dX2_withDatePairs_42 rfl ?_
  refine r_callS hX (z_X2_at_ok ad cs _ 3 _ 4 0 rfl (by decide) _ 1 (by omega) (by decide)) ks_X2_84 rfl rfl (Nat.le_of_ble_eq_true rfl) ⟨(Nat.le_of_ble_eq_true rfl), (Nat.le_of_ble_eq_true rfl)⟩ ⟨(Nat.le_of_ble_eq_true rfl), (Nat.le_of_ble_eq_true rfl)⟩ dX2_withDatePairs_44 (fun _ _ z => False.elim z) (fun v9 ws9 h74 => ?_)
  obtain ⟨rfl, hw9⟩ := h74
  subst ws9
  dsimp only [mPush]
  refine r_callV hX (z_X1_orderTo _ _ (2 + 5) _ _ _ _ (zWd_loc (d := 2) (by decide)) (zrg hS (by decide)) (1 + 5) _ _ _ _ (zWd_loc (d := 1) (by decide)) (zrg hS (by decide))) kv_X2_179 (2 + 5) (zWd_loc (d := 2) (by decide)) rfl rfl rfl (Nat.le_of_ble_eq_true rfl) ⟨(Nat.le_of_ble_eq_true rfl), (Nat.le_of_ble_eq_true rfl)⟩ ⟨(Nat.le_of_ble_eq_true rfl), (Nat.le_of_ble_eq_true rfl)⟩ dX2_withDatePairs_47 (fun _ _ z => False.elim z) (fun v9 ws9 h75 => ?_)
  obtain ⟨rfl, hw9⟩ := h75
  subst ws9
  dsimp only [mPush]
  have hb75 := zTo_b (sse S 2) (sna S 2) (sow S 2) (sse S 1) (sna S 1) (sow S 1)
  refine r_i2lZ hX dX2_withDatePairs_50 (by omega) ?_
  refine r_callS hX (z_X2_added _ _ _ _) ks_X2_247 rfl rfl (Nat.le_of_ble_eq_true rfl) ⟨(Nat.le_of_ble_eq_true rfl), (Nat.le_of_ble_eq_true rfl)⟩ ⟨(Nat.le_of_ble_eq_true rfl), (Nat.le_of_ble_eq_true rfl)⟩ dX2_withDatePairs_51 (fun _ _ z => False.elim z) (fun v9 ws9 h76 => ?_)
  obtain ⟨rfl, hw9⟩ := h76
  subst ws9
  dsimp only [mPush]
  refine r_lstore_n hX dX2_withDatePairs_54 rfl (by decide) rfl ?_
  refine r_lload_n hX dX2_withDatePairs_55 rfl rfl ?_
  refine r_aload_n hX dX2_withDatePairs_56 rfl rfl ?_
  refine r_get hX kf_X2_20 0 rfl rfl dX2_withDatePairs_57 ?_
  refine r_iload hX dX2_withDatePairs_60 rfl ?_
  refine r_callS hX (z_X2_at_ok ad cs _ 3 _ 4 0 rfl (by decide) _ 2 (by omega) (by decide)) ks_X2_84 rfl rfl (Nat.le_of_ble_eq_true rfl) ⟨(Nat.le_of_ble_eq_true rfl), (Nat.le_of_ble_eq_true rfl)⟩ ⟨(Nat.le_of_ble_eq_true rfl), (Nat.le_of_ble_eq_true rfl)⟩ dX2_withDatePairs_62 (fun _ _ z => False.elim z) (fun v9 ws9 h77 => ?_)
  obtain ⟨rfl, hw9⟩ := h77
  subst ws9
  dsimp only [mPush]
  refine r_aload_n hX dX2_withDatePairs_65 rfl rfl ?_
  refine r_get hX kf_X2_20 0 rfl rfl dX2_withDatePairs_66 ?_
  refine r_iload hX dX2_withDatePairs_69 rfl ?_
  refine r_callS hX (z_X2_at_ok ad cs _ 3 _ 4 0 rfl (by decide) _ 1 (by omega) (by decide)) ks_X2_84 rfl rfl (Nat.le_of_ble_eq_true rfl) ⟨(Nat.le_of_ble_eq_true rfl), (Nat.le_of_ble_eq_true rfl)⟩ ⟨(Nat.le_of_ble_eq_true rfl), (Nat.le_of_ble_eq_true rfl)⟩ dX2_withDatePairs_71 (fun _ _ z => False.elim z) (fun v9 ws9 h78 => ?_)
  obtain ⟨rfl, hw9⟩ := h78
  subst ws9
  dsimp only [mPush]
  refine r_callV hX (z_X1_isAlike _ _ (2 + 5) _ _ _ _ (zWd_loc (d := 2) (by decide)) (zrg hS (by decide)) (1 + 5) _ _ _ _ (zWd_loc (d := 1) (by decide)) (zrg hS (by decide))) kv_X2_360 (2 + 5) (zWd_loc (d := 2) (by decide)) rfl rfl rfl (Nat.le_of_ble_eq_true rfl) ⟨(Nat.le_of_ble_eq_true rfl), (Nat.le_of_ble_eq_true rfl)⟩ ⟨(Nat.le_of_ble_eq_true rfl), (Nat.le_of_ble_eq_true rfl)⟩ dX2_withDatePairs_74 (fun _ _ z => False.elim z) (fun v9 ws9 h79 => ?_)
  obtain ⟨rfl, hw9⟩ := h79
  subst ws9
  dsimp only [mPush]
  refine r_selL hX dX2_withDatePairs_77 dX2_withDatePairs_80 dX2_withDatePairs_81 dX2_withDatePairs_84 ?_
  refine r_callS hX (z_X2_added _ _ _ _) ks_X2_247 rfl rfl (Nat.le_of_ble_eq_true rfl) ⟨(Nat.le_of_ble_eq_true rfl), (Nat.le_of_ble_eq_true rfl)⟩ ⟨(Nat.le_of_ble_eq_true rfl), (Nat.le_of_ble_eq_true rfl)⟩ dX2_withDatePairs_85 (fun _ _ z => False.elim z) (fun v9 ws9 h80 => ?_)
  obtain ⟨rfl, hw9⟩ := h80
  subst ws9
  dsimp only [mPush]
  refine r_lstore_n hX dX2_withDatePairs_88 rfl (by decide) rfl ?_
  refine r_iincZ (z := 1) (y := 2) hX dX2_withDatePairs_89 rfl (by decide) rfl rfl ?_
  refine r_goto (tgt := 18) hX dX2_withDatePairs_92 (by decide) ?_
  refine r_iload hX dX2_withDatePairs_18 rfl ?_
  refine r_aload_n hX dX2_withDatePairs_20 rfl rfl ?_
  refine r_get hX kf_X2_20 0 rfl rfl dX2_withDatePairs_21 ?_
  refine r_alen (v := iZ 4) hX 3 2 rfl rfl rfl dX2_withDatePairs_24 ?_
  refine r_icmp_geZ (tgt := 95) hX dX2_withDatePairs_25 (by decide) (by decide) (by decide) (fun q => absurd q (by decide)) (fun _ => ?_)
  refine r_lload_n hX dX2_withDatePairs_28 rfl rfl ?_
  refine r_aload_n hX dX2_withDatePairs_29 rfl rfl ?_
  refine r_get hX kf_X2_20 0 rfl rfl dX2_withDatePairs_30 ?_
  refine r_iload hX dX2_withDatePairs_33 rfl ?_
  refine r_callS hX (z_X2_at_ok ad cs _ 3 _ 4 0 rfl (by decide) _ 2 (by omega) (by decide)) ks_X2_84 rfl rfl (Nat.le_of_ble_eq_true rfl) ⟨(Nat.le_of_ble_eq_true rfl), (Nat.le_of_ble_eq_true rfl)⟩ ⟨(Nat.le_of_ble_eq_true rfl), (Nat.le_of_ble_eq_true rfl)⟩ dX2_withDatePairs_35 (fun _ _ z => False.elim z) (fun v9 ws9 h81 => ?_)
  obtain ⟨rfl, hw9⟩ := h81
  subst ws9
  dsimp only [mPush]
  refine r_aload_n hX dX2_withDatePairs_38 rfl rfl ?_
  refine r_get hX kf_X2_20 0 rfl rfl dX2_withDatePairs_39 ?_
  refine r_iload hX dX2_withDatePairs_42 rfl ?_
  refine r_callS hX (z_X2_at_ok ad cs _ 3 _ 4 0 rfl (by decide) _ 2 (by omega) (by decide)) ks_X2_84 rfl rfl (Nat.le_of_ble_eq_true rfl) ⟨(Nat.le_of_ble_eq_true rfl), (Nat.le_of_ble_eq_true rfl)⟩ ⟨(Nat.le_of_ble_eq_true rfl), (Nat.le_of_ble_eq_true rfl)⟩ dX2_withDatePairs_44 (fun _ _ z => False.elim z) (fun v9 ws9 h82 => ?_)
  obtain ⟨rfl, hw9⟩ := h82
  subst ws9
  dsimp only [mPush]
  refine r_callV hX (z_X1_orderTo _ _ (2 + 5) _ _ _ _ (zWd_loc (d := 2) (by decide)) (zrg hS (by decide)) (2 + 5) _ _ _ _ (zWd_loc (d := 2) (by decide)) (zrg hS (by decide))) kv_X2_179 (2 + 5) (zWd_loc (d := 2) (by decide)) rfl rfl rfl (Nat.le_of_ble_eq_true rfl) ⟨(Nat.le_of_ble_eq_true rfl), (Nat.le_of_ble_eq_true rfl)⟩ ⟨(Nat.le_of_ble_eq_true rfl), (Nat.le_of_ble_eq_true rfl)⟩ dX2_withDatePairs_47 (fun _ _ z => False.elim z) (fun v9 ws9 h83 => ?_)
  obtain ⟨rfl, hw9⟩ := h83
  subst ws9
  dsimp only [mPush]
  have hb83 := zTo_b (sse S 2) (sna S 2) (sow S 2) (sse S 2) (sna S 2) (sow S 2)
  refine r_i2lZ hX dX2_withDatePairs_50 (by omega) ?_
  refine r_callS hX (z_X2_added _ _ _ _) ks_X2_247 rfl rfl (Nat.le_of_ble_eq_true rfl) ⟨(Nat.le_of_ble_eq_true rfl), (Nat.le_of_ble_eq_true rfl)⟩ ⟨(Nat.le_of_ble_eq_true rfl), (Nat.le_of_ble_eq_true rfl)⟩ dX2_withDatePairs_51 (fun _ _ z => False.elim z) (fun v9 ws9 h84 => ?_)
  obtain ⟨rfl, hw9⟩ := h84
  subst ws9
  dsimp only [mPush]
  refine r_lstore_n hX dX2_withDatePairs_54 rfl (by decide) rfl ?_
  refine r_lload_n hX dX2_withDatePairs_55 rfl rfl ?_
  refine r_aload_n hX dX2_withDatePairs_56 rfl rfl ?_
  refine r_get hX kf_X2_20 0 rfl rfl dX2_withDatePairs_57 ?_
  refine r_iload hX dX2_withDatePairs_60 rfl ?_
  refine r_callS hX (z_X2_at_ok ad cs _ 3 _ 4 0 rfl (by decide) _ 2 (by omega) (by decide)) ks_X2_84 rfl rfl (Nat.le_of_ble_eq_true rfl) ⟨(Nat.le_of_ble_eq_true rfl), (Nat.le_of_ble_eq_true rfl)⟩ ⟨(Nat.le_of_ble_eq_true rfl), (Nat.le_of_ble_eq_true rfl)⟩ dX2_withDatePairs_62 (fun _ _ z => False.elim z) (fun v9 ws9 h85 => ?_)
  obtain ⟨rfl, hw9⟩ := h85
  subst ws9
  dsimp only [mPush]
  refine r_aload_n hX dX2_withDatePairs_65 rfl rfl ?_
  refine r_get hX kf_X2_20 0 rfl rfl dX2_withDatePairs_66 ?_
  refine r_iload hX dX2_withDatePairs_69 rfl ?_
  refine r_callS hX (z_X2_at_ok ad cs _ 3 _ 4 0 rfl (by decide) _ 2 (by omega) (by decide)) ks_X2_84 rfl rfl (Nat.le_of_ble_eq_true rfl) ⟨(Nat.le_of_ble_eq_true rfl), (Nat.le_of_ble_eq_true rfl)⟩ ⟨(Nat.le_of_ble_eq_true rfl), (Nat.le_of_ble_eq_true rfl)⟩ dX2_withDatePairs_71 (fun _ _ z => False.elim z) (fun v9 ws9 h86 => ?_)
  obtain ⟨rfl, hw9⟩ := h86
  subst ws9
  dsimp only [mPush]
  refine r_callV hX (z_X1_isAlike _ _ (2 + 5) _ _ _ _ (zWd_loc (d := 2) (by decide)) (zrg hS (by decide)) (2 + 5) _ _ _ _ (zWd_loc (d := 2) (by decide)) (zrg hS (by decide))) kv_X2_360 (2 + 5) (zWd_loc (d := 2) (by decide)) rfl rfl rfl (Nat.le_of_ble_eq_true rfl) ⟨(Nat.le_of_ble_eq_true rfl), (Nat.le_of_ble_eq_true rfl)⟩ ⟨(Nat.le_of_ble_eq_true rfl), (Nat.le_of_ble_eq_true rfl)⟩ dX2_withDatePairs_74 (fun _ _ z => False.elim z) (fun v9 ws9 h87 => ?_)
  obtain ⟨rfl, hw9⟩ := h87
  subst ws9
  dsimp only [mPush]
  refine r_selL hX dX2_withDatePairs_77 dX2_withDatePairs_80 dX2_withDatePairs_81 dX2_withDatePairs_84 ?_
  refine r_callS hX (z_X2_added _ _ _ _) ks_X2_247 rfl rfl (Nat.le_of_ble_eq_true rfl) ⟨(Nat.le_of_ble_eq_true rfl), (Nat.le_of_ble_eq_true rfl)⟩ ⟨(Nat.le_of_ble_eq_true rfl), (Nat.le_of_ble_eq_true rfl)⟩ dX2_withDatePairs_85 (fun _ _ z => False.elim z) (fun v9 ws9 h88 => ?_)
  obtain ⟨rfl, hw9⟩ := h88
  subst ws9
  dsimp only [mPush]
  refine r_lstore_n hX dX2_withDatePairs_88 rfl (by decide) rfl ?_
  refine r_iincZ (z := 1) (y := 3) hX dX2_withDatePairs_89 rfl (by decide) rfl rfl ?_
  refine r_goto (tgt := 18) hX dX2_withDatePairs_92 (by decide) ?_
  refine r_iload hX dX2_withDatePairs_18 rfl ?_
  refine r_aload_n hX dX2_withDatePairs_20 rfl rfl ?_
  refine r_get hX kf_X2_20 0 rfl rfl dX2_withDatePairs_21 ?_
  refine r_alen (v := iZ 4) hX 3 2 rfl rfl rfl dX2_withDatePairs_24 ?_
  refine r_icmp_geZ (tgt := 95) hX dX2_withDatePairs_25 (by decide) (by decide) (by decide) (fun q => absurd q (by decide)) (fun _ => ?_)
  refine r_lload_n hX dX2_withDatePairs_28 rfl rfl ?_
  refine r_aload_n hX dX2_withDatePairs_29 rfl rfl ?_
  refine r_get hX kf_X2_20 0 rfl rfl dX2_withDatePairs_30 ?_
  refine r_iload hX dX2_withDatePairs_33 rfl ?_
  refine r_callS hX (z_X2_at_ok ad cs _ 3 _ 4 0 rfl (by decide) _ 2 (by omega) (by decide)) ks_X2_84 rfl rfl (Nat.le_of_ble_eq_true rfl) ⟨(Nat.le_of_ble_eq_true rfl), (Nat.le_of_ble_eq_true rfl)⟩ ⟨(Nat.le_of_ble_eq_true rfl), (Nat.le_of_ble_eq_true rfl)⟩ dX2_withDatePairs_35 (fun _ _ z => False.elim z) (fun v9 ws9 h89 => ?_)
  obtain ⟨rfl, hw9⟩ := h89
  subst ws9
  dsimp only [mPush]
  refine r_aload_n hX dX2_withDatePairs_38 rfl rfl ?_
  refine r_get hX kf_X2_20 0 rfl rfl dX2_withDatePairs_39 ?_
  refine r_iload hX dX2_withDatePairs_42 rfl ?_
  refine r_callS hX (z_X2_at_ok ad cs _ 3 _ 4 0 rfl (by decide) _ 3 (by omega) (by decide)) ks_X2_84 rfl rfl (Nat.le_of_ble_eq_true rfl) ⟨(Nat.le_of_ble_eq_true rfl), (Nat.le_of_ble_eq_true rfl)⟩ ⟨(Nat.le_of_ble_eq_true rfl), (Nat.le_of_ble_eq_true rfl)⟩ dX2_withDatePairs_44 (fun _ _ z => False.elim z) (fun v9 ws9 h90 => ?_)
  obtain ⟨rfl, hw9⟩ := h90
  subst ws9
  dsimp only [mPush]
  refine r_callV hX (z_X1_orderTo _ _ (2 + 5) _ _ _ _ (zWd_loc (d := 2) (by decide)) (zrg hS (by decide)) (3 + 5) _ _ _ _ (zWd_loc (d := 3) (by decide)) (zrg hS (by decide))) kv_X2_179 (2 + 5) (zWd_loc (d := 2) (by decide)) rfl rfl rfl (Nat.le_of_ble_eq_true rfl) ⟨(Nat.le_of_ble_eq_true rfl), (Nat.le_of_ble_eq_true rfl)⟩ ⟨(Nat.le_of_ble_eq_true rfl), (Nat.le_of_ble_eq_true rfl)⟩ dX2_withDatePairs_47 (fun _ _ z => False.elim z) (fun v9 ws9 h91 => ?_)
  obtain ⟨rfl, hw9⟩ := h91
  subst ws9
  dsimp only [mPush]
  have hb91 := zTo_b (sse S 2) (sna S 2) (sow S 2) (sse S 3) (sna S 3) (sow S 3)
  refine r_i2lZ hX dX2_withDatePairs_50 (by omega) ?_
  refine r_callS hX (z_X2_added _ _ _ _) ks_X2_247 rfl rfl (Nat.le_of_ble_eq_true rfl) ⟨(Nat.le_of_ble_eq_true rfl), (Nat.le_of_ble_eq_true rfl)⟩ ⟨(Nat.le_of_ble_eq_true rfl), (Nat.le_of_ble_eq_true rfl)⟩ dX2_withDatePairs_51 (fun _ _ z => False.elim z) (fun v9 ws9 h92 => ?_)
  obtain ⟨rfl, hw9⟩ := h92
  subst ws9
  dsimp only [mPush]
  refine r_lstore_n hX dX2_withDatePairs_54 rfl (by decide) rfl ?_
  refine r_lload_n hX dX2_withDatePairs_55 rfl rfl ?_
  refine r_aload_n hX dX2_withDatePairs_56 rfl rfl ?_
  refine r_get hX kf_X2_20 0 rfl rfl dX2_withDatePairs_57 ?_
  refine r_iload hX dX2_withDatePairs_60 rfl ?_
  refine r_callS hX (z_X2_at_ok ad cs _ 3 _ 4 0 rfl (by decide) _ 2 (by omega) (by decide)) ks_X2_84 rfl rfl (Nat.le_of_ble_eq_true rfl) ⟨(Nat.le_of_ble_eq_true rfl), (Nat.le_of_ble_eq_true rfl)⟩ ⟨(Nat.le_of_ble_eq_true rfl), (Nat.le_of_ble_eq_true rfl)⟩ dX2_withDatePairs_62 (fun _ _ z => False.elim z) (fun v9 ws9 h93 => ?_)
  obtain ⟨rfl, hw9⟩ := h93
  subst ws9
  dsimp only [mPush]
  refine r_aload_n hX dX2_withDatePairs_65 rfl rfl ?_
  refine r_get hX kf_X2_20 0 rfl rfl dX2_withDatePairs_66 ?_
  refine r_iload hX dX2_withDatePairs_69 rfl ?_
  refine r_callS hX (z_X2_at_ok ad cs _ 3 _ 4 0 rfl (by decide) _ 3 (by omega) (by decide)) ks_X2_84 rfl rfl (Nat.le_of_ble_eq_true rfl) ⟨(Nat.le_of_ble_eq_true rfl), (Nat.le_of_ble_eq_true rfl)⟩ ⟨(Nat.le_of_ble_eq_true rfl), (Nat.le_of_ble_eq_true rfl)⟩ dX2_withDatePairs_71 (fun _ _ z => False.elim z) (fun v9 ws9 h94 => ?_)
  obtain ⟨rfl, hw9⟩ := h94
  subst ws9
  dsimp only [mPush]
  refine r_callV hX (z_X1_isAlike _ _ (2 + 5) _ _ _ _ (zWd_loc (d := 2) (by decide)) (zrg hS (by decide)) (3 + 5) _ _ _ _ (zWd_loc (d := 3) (by decide)) (zrg hS (by decide))) kv_X2_360 (2 + 5) (zWd_loc (d := 2) (by decide)) rfl rfl rfl (Nat.le_of_ble_eq_true rfl) ⟨(Nat.le_of_ble_eq_true rfl), (Nat.le_of_ble_eq_true rfl)⟩ ⟨(Nat.le_of_ble_eq_true rfl), (Nat.le_of_ble_eq_true rfl)⟩ dX2_withDatePairs_74 (fun _ _ z => False.elim z) (fun v9 ws9 h95 => ?_)
  obtain ⟨rfl, hw9⟩ := h95
  subst ws9
  dsimp only [mPush]
  refine r_selL hX dX2_withDatePairs_77 dX2_withDatePairs_80 dX2_withDatePairs_81 dX2_withDatePairs_84 ?_
  refine r_callS hX (z_X2_added _ _ _ _) ks_X2_247 rfl rfl (Nat.le_of_ble_eq_true rfl) ⟨(Nat.le_of_ble_eq_true rfl), (Nat.le_of_ble_eq_true rfl)⟩ ⟨(Nat.le_of_ble_eq_true rfl), (Nat.le_of_ble_eq_true rfl)⟩ dX2_withDatePairs_85 (fun _ _ z => False.elim z) (fun v9 ws9 h96 => ?_)
  obtain ⟨rfl, hw9⟩ := h96
  subst ws9
  dsimp only [mPush]
  refine r_lstore_n hX dX2_withDatePairs_88 rfl (by decide) rfl ?_
  refine r_iincZ (z := 1) (y := 4) hX dX2_withDatePairs_89 rfl (by decide) rfl rfl ?_
  refine r_goto (tgt := 18) hX dX2_withDatePairs_92 (by decide) ?_
  refine r_iload hX dX2_withDatePairs_18 rfl ?_
  refine r_aload_n hX dX2_withDatePairs_20 rfl rfl ?_
  refine r_get hX kf_X2_20 0 rfl rfl dX2_withDatePairs_21 ?_
  refine r_alen (v := iZ 4) hX 3 2 rfl rfl rfl dX2_withDatePairs_24 ?_
  refine r_icmp_geZ (tgt := 95) hX dX2_withDatePairs_25 (by decide) (by decide) (by decide) (fun _ => ?_) (fun q => absurd (by decide) q)
  refine r_iincZ (z := 1) (y := 3) hX dX2_withDatePairs_95 rfl (by decide) rfl rfl ?_
  refine r_goto (tgt := 5) hX dX2_withDatePairs_98 (by decide) ?_
  refine r_iload hX dX2_withDatePairs_5 rfl ?_
  refine r_aload_n hX dX2_withDatePairs_7 rfl rfl ?_
  refine r_get hX kf_X2_20 0 rfl rfl dX2_withDatePairs_8 ?_
  refine r_alen (v := iZ 4) hX 3 2 rfl rfl rfl dX2_withDatePairs_11 ?_
  refine r_icmp_geZ (tgt := 101) hX dX2_withDatePairs_12 (by decide) (by decide) (by decide) (fun q => absurd q (by decide)) (fun _ => ?_)
  refine r_iconstZ hX dX2_withDatePairs_15 ?_
  refine r_istore hX dX2_withDatePairs_16 (by decide) rfl ?_
  refine r_iload hX dX2_withDatePairs_18 rfl ?_
  refine r_aload_n hX dX2_withDatePairs_20 rfl rfl ?_
  refine r_get hX kf_X2_20 0 rfl rfl dX2_withDatePairs_21 ?_
  refine r_alen (v := iZ 4) hX 3 2 rfl rfl rfl dX2_withDatePairs_24 ?_
  refine r_icmp_geZ (tgt := 95) hX dX2_withDatePairs_25 (by decide) (by decide) (by decide) (fun q => absurd q (by decide)) (fun _ => ?_)
  refine r_lload_n hX dX2_withDatePairs_28 rfl rfl ?_
  refine r_aload_n hX dX2_withDatePairs_29 rfl rfl ?_
  refine r_get hX kf_X2_20 0 rfl rfl dX2_withDatePairs_30 ?_
  refine r_iload hX dX2_withDatePairs_33 rfl ?_
  refine r_callS hX (z_X2_at_ok ad cs _ 3 _ 4 0 rfl (by decide) _ 3 (by omega) (by decide)) ks_X2_84 rfl rfl (Nat.le_of_ble_eq_true rfl) ⟨(Nat.le_of_ble_eq_true rfl), (Nat.le_of_ble_eq_true rfl)⟩ ⟨(Nat.le_of_ble_eq_true rfl), (Nat.le_of_ble_eq_true rfl)⟩ dX2_withDatePairs_35 (fun _ _ z => False.elim z) (fun v9 ws9 h97 => ?_)
  obtain ⟨rfl, hw9⟩ := h97
  subst ws9
  dsimp only [mPush]
  refine r_aload_n hX dX2_withDatePairs_38 rfl rfl ?_
  refine r_get hX kf_X2_20 0 rfl rfl dX2_withDatePairs_39 ?_
  refine r_iload hX dX2_withDatePairs_42 rfl ?_
  refine r_callS hX (z_X2_at_ok ad cs _ 3 _ 4 0 rfl (by decide) _ 0 (by omega) (by decide)) ks_X2_84 rfl rfl (Nat.le_of_ble_eq_true rfl) ⟨(Nat.le_of_ble_eq_true rfl), (Nat.le_of_ble_eq_true rfl)⟩ ⟨(Nat.le_of_ble_eq_true rfl), (Nat.le_of_ble_eq_true rfl)⟩ dX2_withDatePairs_44 (fun _ _ z => False.elim z) (fun v9 ws9 h98 => ?_)
  obtain ⟨rfl, hw9⟩ := h98
  subst ws9
  dsimp only [mPush]
  refine r_callV hX (z_X1_orderTo _ _ (3 + 5) _ _ _ _ (zWd_loc (d := 3) (by decide)) (zrg hS (by decide)) (0 + 5) _ _ _ _ (zWd_loc (d := 0) (by decide)) (zrg hS (by decide))) kv_X2_179 (3 + 5) (zWd_loc (d := 3) (by decide)) rfl rfl rfl (Nat.le_of_ble_eq_true rfl) ⟨(Nat.le_of_ble_eq_true rfl), (Nat.le_of_ble_eq_true rfl)⟩ ⟨(Nat.le_of_ble_eq_true rfl), (Nat.le_of_ble_eq_true rfl)⟩ dX2_withDatePairs_47 (fun _ _ z => False.elim z) (fun v9 ws9 h99 => ?_)
  obtain ⟨rfl, hw9⟩ := h99
  subst ws9
  dsimp only [mPush]
  have hb99 := zTo_b (sse S 3) (sna S 3) (sow S 3) (sse S 0) (sna S 0) (sow S 0)
  refine r_i2lZ hX dX2_withDatePairs_50 (by omega) ?_
  refine r_callS hX (z_X2_added _ _ _ _) ks_X2_247 rfl rfl (Nat.le_of_ble_eq_true rfl) ⟨(Nat.le_of_ble_eq_true rfl), (Nat.le_of_ble_eq_true rfl)⟩ ⟨(Nat.le_of_ble_eq_true rfl), (Nat.le_of_ble_eq_true rfl)⟩ dX2_withDatePairs_51 (fun _ _ z => False.elim z) (fun v9 ws9 h100 => ?_)
  obtain ⟨rfl, hw9⟩ := h100
  subst ws9
  dsimp only [mPush]
  refine r_lstore_n hX dX2_withDatePairs_54 rfl (by decide) rfl ?_
  refine r_lload_n hX dX2_withDatePairs_55 rfl rfl ?_
  refine r_aload_n hX dX2_withDatePairs_56 rfl rfl ?_
  refine r_get hX kf_X2_20 0 rfl rfl dX2_withDatePairs_57 ?_
  refine r_iload hX dX2_withDatePairs_60 rfl ?_
  refine r_callS hX (z_X2_at_ok ad cs _ 3 _ 4 0 rfl (by decide) _ 3 (by omega) (by decide)) ks_X2_84 rfl rfl (Nat.le_of_ble_eq_true rfl) ⟨(Nat.le_of_ble_eq_true rfl), (Nat.le_of_ble_eq_true rfl)⟩ ⟨(Nat.le_of_ble_eq_true rfl), (Nat.le_of_ble_eq_true rfl)⟩ dX2_withDatePairs_62 (fun _ _ z => False.elim z) (fun v9 ws9 h101 => ?_)
  obtain ⟨rfl, hw9⟩ := h101
  subst ws9
  dsimp only [mPush]
  refine r_aload_n hX dX2_withDatePairs_65 rfl rfl ?_
  refine r_get hX kf_X2_20 0 rfl rfl dX2_withDatePairs_66 ?_
  refine r_iload hX dX2_withDatePairs_69 rfl ?_
  refine r_callS hX (z_X2_at_ok ad cs _ 3 _ 4 0 rfl (by decide) _ 0 (by omega) (by decide)) ks_X2_84 rfl rfl (Nat.le_of_ble_eq_true rfl) ⟨(Nat.le_of_ble_eq_true rfl), (Nat.le_of_ble_eq_true rfl)⟩ ⟨(Nat.le_of_ble_eq_true rfl), (Nat.le_of_ble_eq_true rfl)⟩ dX2_withDatePairs_71 (fun _ _ z => False.elim z) (fun v9 ws9 h102 => ?_)
  obtain ⟨rfl, hw9⟩ := h102
  subst ws9
  dsimp only [mPush]
  refine r_callV hX (z_X1_isAlike _ _ (3 + 5) _ _ _ _ (zWd_loc (d := 3) (by decide)) (zrg hS (by decide)) (0 + 5) _ _ _ _ (zWd_loc (d := 0) (by decide)) (zrg hS (by decide))) kv_X2_360 (3 + 5) (zWd_loc (d := 3) (by decide)) rfl rfl rfl (Nat.le_of_ble_eq_true rfl) ⟨(Nat.le_of_ble_eq_true rfl), (Nat.le_of_ble_eq_true rfl)⟩ ⟨(Nat.le_of_ble_eq_true rfl), (Nat.le_of_ble_eq_true rfl)⟩ dX2_withDatePairs_74 (fun _ _ z => False.elim z) (fun v9 ws9 h103 => ?_)
  obtain ⟨rfl, hw9⟩ := h103
  subst ws9
  dsimp only [mPush]
  refine r_selL hX dX2_withDatePairs_77 dX2_withDatePairs_80 dX2_withDatePairs_81 dX2_withDatePairs_84 ?_
  refine r_callS hX (z_X2_added _ _ _ _) ks_X2_247 rfl rfl (Nat.le_of_ble_eq_true rfl) ⟨(Nat.le_of_ble_eq_true rfl), (Nat.le_of_ble_eq_true rfl)⟩ ⟨(Nat.le_of_ble_eq_true rfl), (Nat.le_of_ble_eq_true rfl)⟩ dX2_withDatePairs_85 (fun _ _ z => False.elim z) (fun v9 ws9 h104 => ?_)
  obtain ⟨rfl, hw9⟩ := h104
  subst ws9
  dsimp only [mPush]
  refine r_lstore_n hX dX2_withDatePairs_88 rfl (by decide) rfl ?_
  refine r_iincZ (z := 1) (y := 1) hX dX2_withDatePairs_89 rfl (by decide) rfl rfl ?_
  refine r_goto (tgt := 18) hX dX2_withDatePairs_92 (by decide) ?_
  refine r_iload hX dX2_withDatePairs_18 rfl ?_
  refine r_aload_n hX dX2_withDatePairs_20 rfl rfl ?_
  refine r_get hX kf_X2_20 0 rfl rfl dX2_withDatePairs_21 ?_
  refine r_alen (v := iZ 4) hX 3 2 rfl rfl rfl dX2_withDatePairs_24 ?_
  refine r_icmp_geZ (tgt := 95) hX dX2_withDatePairs_25 (by decide) (by decide) (by decide) (fun q => absurd q (by decide)) (fun _ => ?_)
  refine r_lload_n hX dX2_withDatePairs_28 rfl rfl ?_
  refine r_aload_n hX dX2_withDatePairs_29 rfl rfl ?_
  refine r_get hX kf_X2_20 0 rfl rfl dX2_withDatePairs_30 ?_
  refine r_iload hX dX2_withDatePairs_33 rfl ?_
  refine r_callS hX (z_X2_at_ok ad cs _ 3 _ 4 0 rfl (by decide) _ 3 (by omega) (by decide)) ks_X2_84 rfl rfl (Nat.le_of_ble_eq_true rfl) ⟨(Nat.le_of_ble_eq_true rfl), (Nat.le_of_ble_eq_true rfl)⟩ ⟨(Nat.le_of_ble_eq_true rfl), (Nat.le_of_ble_eq_true rfl)⟩ dX2_withDatePairs_35 (fun _ _ z => False.elim z) (fun v9 ws9 h105 => ?_)
  obtain ⟨rfl, hw9⟩ := h105
  subst ws9
  dsimp only [mPush]
  refine r_aload_n hX dX2_withDatePairs_38 rfl rfl ?_
  refine r_get hX kf_X2_20 0 rfl rfl dX2_withDatePairs_39 ?_
  refine r_iload hX dX2_withDatePairs_42 rfl ?_
  refine r_callS hX (z_X2_at_ok ad cs _ 3 _ 4 0 rfl (by decide) _ 1 (by omega) (by decide)) ks_X2_84 rfl rfl (Nat.le_of_ble_eq_true rfl) ⟨(Nat.le_of_ble_eq_true rfl), (Nat.le_of_ble_eq_true rfl)⟩ ⟨(Nat.le_of_ble_eq_true rfl), (Nat.le_of_ble_eq_true rfl)⟩ dX2_withDatePairs_44 (fun _ _ z => False.elim z) (fun v9 ws9 h106 => ?_)
  obtain ⟨rfl, hw9⟩ := h106
  subst ws9
  dsimp only [mPush]
  refine r_callV hX (z_X1_orderTo _ _ (3 + 5) _ _ _ _ (zWd_loc (d := 3) (by decide)) (zrg hS (by decide)) (1 + 5) _ _ _ _ (zWd_loc (d := 1) (by decide)) (zrg hS (by decide))) kv_X2_179 (3 + 5) (zWd_loc (d := 3) (by decide)) rfl rfl rfl (Nat.le_of_ble_eq_true rfl) ⟨(Nat.le_of_ble_eq_true rfl), (Nat.le_of_ble_eq_true rfl)⟩ ⟨(Nat.le_of_ble_eq_true rfl), (Nat.le_of_ble_eq_true rfl)⟩ dX2_withDatePairs_47 (fun _ _ z => False.elim z) (fun v9 ws9 h107 => ?_)
  obtain ⟨rfl, hw9⟩ := h107
  subst ws9
  dsimp only [mPush]
  have hb107 := zTo_b (sse S 3) (sna S 3) (sow S 3) (sse S 1) (sna S 1) (sow S 1)
  refine r_i2lZ hX dX2_withDatePairs_50 (by omega) ?_
  refine r_callS hX (z_X2_added _ _ _ _) ks_X2_247 rfl rfl (Nat.le_of_ble_eq_true rfl) ⟨(Nat.le_of_ble_eq_true rfl), (Nat.le_of_ble_eq_true rfl)⟩ ⟨(Nat.le_of_ble_eq_true rfl), (Nat.le_of_ble_eq_true rfl)⟩ dX2_withDatePairs_51 (fun _ _ z => False.elim z) (fun v9 ws9 h108 => ?_)
  obtain ⟨rfl, hw9⟩ := h108
  subst ws9
  dsimp only [mPush]
  refine r_lstore_n hX dX2_withDatePairs_54 rfl (by decide) rfl ?_
  refine r_lload_n hX dX2_withDatePairs_55 rfl rfl ?_
  refine r_aload_n hX dX2_withDatePairs_56 rfl rfl ?_
  refine r_get hX kf_X2_20 0 rfl rfl dX2_withDatePairs_57 ?_
  refine r_iload hX dX2_withDatePairs_60 rfl ?_
  refine r_callS hX (z_X2_at_ok ad cs _ 3 _ 4 0 rfl (by decide) _ 3 (by omega) (by decide)) ks_X2_84 rfl rfl (Nat.le_of_ble_eq_true rfl) ⟨(Nat.le_of_ble_eq_true rfl), (Nat.le_of_ble_eq_true rfl)⟩ ⟨(Nat.le_of_ble_eq_true rfl), (Nat.le_of_ble_eq_true rfl)⟩ dX2_withDatePairs_62 (fun _ _ z => False.elim z) (fun v9 ws9 h109 => ?_)
  obtain ⟨rfl, hw9⟩ := h109
  subst ws9
  dsimp only [mPush]
  refine r_aload_n hX dX2_withDatePairs_65 rfl rfl ?_
  refine r_get hX kf_X2_20 0 rfl rfl dX2_withDatePairs_66 ?_
  refine r_iload hX dX2_withDatePairs_69 rfl ?_
  refine r_callS hX (z_X2_at_ok ad cs _ 3 _ 4 0 rfl (by decide) _ 1 (by omega) (by decide)) ks_X2_84 rfl rfl (Nat.le_of_ble_eq_true rfl) ⟨(Nat.le_of_ble_eq_true rfl), (Nat.le_of_ble_eq_true rfl)⟩ ⟨(Nat.le_of_ble_eq_true rfl), (Nat.le_of_ble_eq_true rfl)⟩ dX2_withDatePairs_71 (fun _ _ z => False.elim z) (fun v9 ws9 h110 => ?_)
  obtain ⟨rfl, hw9⟩ := h110
  subst ws9
  dsimp only [mPush]
  refine r_callV hX (z_X1_isAlike _ _ (3 + 5) _ _ _ _ (zWd_loc (d := 3) (by decide)) (zrg hS (by decide)) (1 + 5) _ _ _ _ (zWd_loc (d := 1) (by decide)) (zrg hS (by decide))) kv_X2_360 (3 + 5) (zWd_loc (d := 3) (by decide)) rfl rfl rfl (Nat.le_of_ble_eq_true rfl) ⟨(Nat.le_of_ble_eq_true rfl), (Nat.le_of_ble_eq_true rfl)⟩ ⟨(Nat.le_of_ble_eq_true rfl), (Nat.le_of_ble_eq_true rfl)⟩ dX2_withDatePairs_74 (fun _ _ z => False.elim z) (fun v9 ws9 h111 => ?_)
  obtain ⟨rfl, hw9⟩ := h111
  subst ws9
  dsimp only [mPush]
  refine r_selL hX dX2_withDatePairs_77 dX2_withDatePairs_80 dX2_withDatePairs_81 dX2_withDatePairs_84 ?_
  refine r_callS hX (z_X2_added _ _ _ _) ks_X2_247 rfl rfl (Nat.le_of_ble_eq_true rfl) ⟨(Nat.le_of_ble_eq_true rfl), (Nat.le_of_ble_eq_true rfl)⟩ ⟨(Nat.le_of_ble_eq_true rfl), (Nat.le_of_ble_eq_true rfl)⟩ dX2_withDatePairs_85 (fun _ _ z => False.elim z) (fun v9 ws9 h112 => ?_)
  obtain ⟨rfl, hw9⟩ := h112
  subst ws9
  dsimp only [mPush]
  refine r_lstore_n hX dX2_withDatePairs_88 rfl (by decide) rfl ?_
  refine r_iincZ (z := 1) (y := 2) hX dX2_withDatePairs_89 rfl (by decide) rfl rfl ?_
  refine r_goto (tgt := 18) hX dX2_withDatePairs_92 (by decide) ?_
  refine r_iload hX dX2_withDatePairs_18 rfl ?_
  refine r_aload_n hX dX2_withDatePairs_20 rfl rfl ?_
  refine r_get hX kf_X2_20 0 rfl rfl dX2_withDatePairs_21 ?_
  refine r_alen (v := iZ 4) hX 3 2 rfl rfl rfl dX2_withDatePairs_24 ?_
  refine r_icmp_geZ (tgt := 95) hX dX2_withDatePairs_25 (by decide) (by decide) (by decide) (fun q => absurd q (by decide)) (fun _ => ?_)
  refine r_lload_n hX dX2_withDatePairs_28 rfl rfl ?_
  refine r_aload_n hX dX2_withDatePairs_29 rfl rfl ?_
  refine r_get hX kf_X2_20 0 rfl rfl dX2_withDatePairs_30 ?_
  refine r_iload hX dX2_withDatePairs_33 rfl ?_
  refine r_callS hX (z_X2_at_ok ad cs _ 3 _ 4 0 rfl (by decide) _ 3 (by omega) (by decide)) ks_X2_84 rfl rfl (Nat.le_of_ble_eq_true rfl) ⟨(Nat.le_of_ble_eq_true rfl), (Nat.le_of_ble_eq_true rfl)⟩ ⟨(Nat.le_of_ble_eq_true rfl), (Nat.le_of_ble_eq_true rfl)⟩ dX2_withDatePairs_35 (fun _ _ z => False.elim z) (fun v9 ws9 h113 => ?_)
  obtain ⟨rfl, hw9⟩ := h113
  subst ws9
  dsimp only [mPush]
  refine r_aload_n hX dX2_withDatePairs_38 rfl rfl ?_
  refine r_get hX kf_X2_20 0 rfl rfl dX2_withDatePairs_39 ?_
  refine r_iload hX dX2_withDatePairs_42 rfl ?_
  refine r_callS hX (z_X2_at_ok ad cs _ 3 _ 4 0 rfl (by decide) _ 2 (by omega) (by decide)) ks_X2_84 rfl rfl (Nat.le_of_ble_eq_true rfl) ⟨(Nat.le_of_ble_eq_true rfl), (Nat.le_of_ble_eq_true rfl)⟩ ⟨(Nat.le_of_ble_eq_true rfl), (Nat.le_of_ble_eq_true rfl)⟩ dX2_withDatePairs_44 (fun _ _ z => False.elim z) (fun v9 ws9 h114 => ?_)
  obtain ⟨rfl, hw9⟩ := h114
  subst ws9
  dsimp only [mPush]
  refine r_callV hX (z_X1_orderTo _ _ (3 + 5) _ _ _ _ (zWd_loc (d := 3) (by decide)) (zrg hS (by decide)) (2 + 5) _ _ _ _ (zWd_loc (d := 2) (by decide)) (zrg hS (by decide))) kv_X2_179 (3 + 5) (zWd_loc (d := 3) (by decide)) rfl rfl rfl (Nat.le_of_ble_eq_true rfl) ⟨(Nat.le_of_ble_eq_true rfl), (Nat.le_of_ble_eq_true rfl)⟩ ⟨(Nat.le_of_ble_eq_true rfl), (Nat.le_of_ble_eq_true rfl)⟩ dX2_withDatePairs_47 (fun _ _ z => False.elim z) (fun v9 ws9 h115 => ?_)
  obtain ⟨rfl, hw9⟩ := h115
  subst ws9
  dsimp only [mPush]
  have hb115 := zTo_b (sse S 3) (sna S 3) (sow S 3) (sse S 2) (sna S 2) (sow S 2)
  refine r_i2lZ hX dX2_withDatePairs_50 (by omega) ?_
  refine r_callS hX (z_X2_added _ _ _ _) ks_X2_247 rfl rfl (Nat.le_of_ble_eq_true rfl) ⟨(Nat.le_of_ble_eq_true rfl), (Nat.le_of_ble_eq_true rfl)⟩ ⟨(Nat.le_of_ble_eq_true rfl), (Nat.le_of_ble_eq_true rfl)⟩ dX2_withDatePairs_51 (fun _ _ z => False.elim z) (fun v9 ws9 h116 => ?_)
  obtain ⟨rfl, hw9⟩ := h116
  subst ws9
  dsimp only [mPush]
  refine r_lstore_n hX dX2_withDatePairs_54 rfl (by decide) rfl ?_
  refine r_lload_n hX dX2_withDatePairs_55 rfl rfl ?_
  refine r_aload_n hX dX2_withDatePairs_56 rfl rfl ?_
  refine r_get hX kf_X2_20 0 rfl rfl dX2_withDatePairs_57 ?_
  refine r_iload hX dX2_withDatePairs_60 rfl ?_
  refine r_callS hX (z_X2_at_ok ad cs _ 3 _ 4 0 rfl (by decide) _ 3 (by omega) (by decide)) ks_X2_84 rfl rfl (Nat.le_of_ble_eq_true rfl) ⟨(Nat.le_of_ble_eq_true rfl), (Nat.le_of_ble_eq_true rfl)⟩ ⟨(Nat.le_of_ble_eq_true rfl), (Nat.le_of_ble_eq_true rfl)⟩ dX2_withDatePairs_62 (fun _ _ z => False.elim z) (fun v9 ws9 h117 => ?_)
  obtain ⟨rfl, hw9⟩ := h117
  subst ws9
  dsimp only [mPush]
  refine r_aload_n hX dX2_withDatePairs_65 rfl rfl ?_
  refine r_get hX kf_X2_20 0 rfl rfl dX2_withDatePairs_66 ?_
  refine r_iload hX dX2_withDatePairs_69 rfl ?_
  refine r_callS hX (z_X2_at_ok ad cs _ 3 _ 4 0 rfl (by decide) _ 2 (by omega) (by decide)) ks_X2_84 rfl rfl (Nat.le_of_ble_eq_true rfl) ⟨(Nat.le_of_ble_eq_true rfl), (Nat.le_of_ble_eq_true rfl)⟩ ⟨(Nat.le_of_ble_eq_true rfl), (Nat.le_of_ble_eq_true rfl)⟩ dX2_withDatePairs_71 (fun _ _ z => False.elim z) (fun v9 ws9 h118 => ?_)
  obtain ⟨rfl, hw9⟩ := h118
  subst ws9
  dsimp only [mPush]
  refine r_callV hX (z_X1_isAlike _ _ (3 + 5) _ _ _ _ (zWd_loc (d := 3) (by decide)) (zrg hS (by decide)) (2 + 5) _ _ _ _ (zWd_loc (d := 2) (by decide)) (zrg hS (by decide))) kv_X2_360 (3 + 5) (zWd_loc (d := 3) (by decide)) rfl rfl rfl (Nat.le_of_ble_eq_true rfl) ⟨(Nat.le_of_ble_eq_true rfl), (Nat.le_of_ble_eq_true rfl)⟩ ⟨(Nat.le_of_ble_eq_true rfl), (Nat.le_of_ble_eq_true rfl)⟩ dX2_withDatePairs_74 (fun _ _ z => False.elim z) (fun v9 ws9 h119 => ?_)
  obtain ⟨rfl, hw9⟩ := h119
  subst ws9
  dsimp only [mPush]
  refine r_selL hX dX2_withDatePairs_77 dX2_withDatePairs_80 dX2_withDatePairs_81 dX2_withDatePairs_84 ?_
  refine r_callS hX (z_X2_added _ _ _ _) ks_X2_247 rfl rfl (Nat.le_of_ble_eq_true rfl) ⟨(Nat.le_of_ble_eq_true rfl), (Nat.le_of_ble_eq_true rfl)⟩ ⟨(Nat.le_of_ble_eq_true rfl), (Nat.le_of_ble_eq_true rfl)⟩ dX2_withDatePairs_85 (fun _ _ z => False.elim z) (fun v9 ws9 h120 => ?_)
  obtain ⟨rfl, hw9⟩ := h120
  subst ws9
  dsimp only [mPush]
  refine r_lstore_n hX dX2_withDatePairs_88 rfl (by decide) rfl ?_
  refine r_iincZ (z := 1) (y := 3) hX dX2_withDatePairs_89 rfl (by decide) rfl rfl ?_
  refine r_goto (tgt := 18) hX dX2_withDatePairs_92 (by decide) ?_
  refine r_iload hX dX2_withDatePairs_18 rfl ?_
  refine r_aload_n hX dX2_withDatePairs_20 rfl rfl ?_
  refine r_get hX kf_X2_20 0 rfl rfl dX2_withDatePairs_21 ?_
  refine r_alen (v := iZ 4) hX 3 2 rfl rfl rfl dX2_withDatePairs_24 ?_
  refine r_icmp_geZ (tgt := 95) hX dX2_withDatePairs_25 (by decide) (by decide) (by decide) (fun q => absurd q (by decide)) (fun _ => ?_)
  refine r_lload_n hX dX2_withDatePairs_28 rfl rfl ?_
  refine r_aload_n hX dX2_withDatePairs_29 rfl rfl ?_
  refine r_get hX kf_X2_20 0 rfl rfl dX2_withDatePairs_30 ?_
  refine r_iload hX dX2_withDatePairs_33 rfl ?_
  refine r_callS hX (z_X2_at_ok ad cs _ 3 _ 4 0 rfl (by decide) _ 3 (by omega) (by decide)) ks_X2_84 rfl rfl (Nat.le_of_ble_eq_true rfl) ⟨(Nat.le_of_ble_eq_true rfl), (Nat.le_of_ble_eq_true rfl)⟩ ⟨(Nat.le_of_ble_eq_true rfl), (Nat.le_of_ble_eq_true rfl)⟩ dX2_withDatePairs_35 (fun _ _ z => False.elim z) (fun v9 ws9 h121 => ?_)
  obtain ⟨rfl, hw9⟩ := h121
  subst ws9
  dsimp only [mPush]
  refine r_aload_n hX dX2_withDatePairs_38 rfl rfl ?_
  refine r_get hX kf_X2_20 0 rfl rfl dX2_withDatePairs_39 ?_
  refine r_iload hX dX2_withDatePairs_42 rfl ?_
  refine r_callS hX (z_X2_at_ok ad cs _ 3 _ 4 0 rfl (by decide) _ 3 (by omega) (by decide)) ks_X2_84 rfl rfl (Nat.le_of_ble_eq_true rfl) ⟨(Nat.le_of_ble_eq_true rfl), (Nat.le_of_ble_eq_true rfl)⟩ ⟨(Nat.le_of_ble_eq_true rfl), (Nat.le_of_ble_eq_true rfl)⟩ dX2_withDatePairs_44 (fun _ _ z => False.elim z) (fun v9 ws9 h122 => ?_)
  obtain ⟨rfl, hw9⟩ := h122
  subst ws9
  dsimp only [mPush]
  refine r_callV hX (z_X1_orderTo _ _ (3 + 5) _ _ _ _ (zWd_loc (d := 3) (by decide)) (zrg hS (by decide)) (3 + 5) _ _ _ _ (zWd_loc (d := 3) (by decide)) (zrg hS (by decide))) kv_X2_179 (3 + 5) (zWd_loc (d := 3) (by decide)) rfl rfl rfl (Nat.le_of_ble_eq_true rfl) ⟨(Nat.le_of_ble_eq_true rfl), (Nat.le_of_ble_eq_true rfl)⟩ ⟨(Nat.le_of_ble_eq_true rfl), (Nat.le_of_ble_eq_true rfl)⟩ dX2_withDatePairs_47 (fun _ _ z => False.elim z) (fun v9 ws9 h123 => ?_)
  obtain ⟨rfl, hw9⟩ := h123
  subst ws9
  dsimp only [mPush]
  have hb123 := zTo_b (sse S 3) (sna S 3) (sow S 3) (sse S 3) (sna S 3) (sow S 3)
  refine r_i2lZ hX dX2_withDatePairs_50 (by omega) ?_
  refine r_callS hX (z_X2_added _ _ _ _) ks_X2_247 rfl rfl (Nat.le_of_ble_eq_true rfl) ⟨(Nat.le_of_ble_eq_true rfl), (Nat.le_of_ble_eq_true rfl)⟩ ⟨(Nat.le_of_ble_eq_true rfl), (Nat.le_of_ble_eq_true rfl)⟩ dX2_withDatePairs_51 (fun _ _ z => False.elim z) (fun v9 ws9 h124 => ?_)
  obtain ⟨rfl, hw9⟩ := h124
  subst ws9
  dsimp only [mPush]
  refine r_lstore_n hX dX2_withDatePairs_54 rfl (by decide) rfl ?_
  refine r_lload_n hX dX2_withDatePairs_55 rfl rfl ?_
  refine r_aload_n hX dX2_withDatePairs_56 rfl rfl ?_
  refine r_get hX kf_X2_20 0 rfl rfl dX2_withDatePairs_57 ?_
  refine r_iload hX dX2_withDatePairs_60 rfl ?_
  refine r_callS hX (z_X2_at_ok ad cs _ 3 _ 4 0 rfl (by decide) _ 3 (by omega) (by decide)) ks_X2_84 rfl rfl (Nat.le_of_ble_eq_true rfl) ⟨(Nat.le_of_ble_eq_true rfl), (Nat.le_of_ble_eq_true rfl)⟩ ⟨(Nat.le_of_ble_eq_true rfl), (Nat.le_of_ble_eq_true rfl)⟩ dX2_withDatePairs_62 (fun _ _ z => False.elim z) (fun v9 ws9 h125 => ?_)
  obtain ⟨rfl, hw9⟩ := h125
  subst ws9
  dsimp only [mPush]
  refine r_aload_n hX dX2_withDatePairs_65 rfl rfl ?_
  refine r_get hX kf_X2_20 0 rfl rfl dX2_withDatePairs_66 ?_
  refine r_iload hX dX2_withDatePairs_69 rfl ?_
  refine r_callS hX (z_X2_at_ok ad cs _ 3 _ 4 0 rfl (by decide) _ 3 (by omega) (by decide)) ks_X2_84 rfl rfl (Nat.le_of_ble_eq_true rfl) ⟨(Nat.le_of_ble_eq_true rfl), (Nat.le_of_ble_eq_true rfl)⟩ ⟨(Nat.le_of_ble_eq_true rfl), (Nat.le_of_ble_eq_true rfl)⟩ dX2_withDatePairs_71 (fun _ _ z => False.elim z) (fun v9 ws9 h126 => ?_)
  obtain ⟨rfl, hw9⟩ := h126
  subst ws9
  dsimp only [mPush]
  refine r_callV hX (z_X1_isAlike _ _ (3 + 5) _ _ _ _ (zWd_loc (d := 3) (by decide)) (zrg hS (by decide)) (3 + 5) _ _ _ _ (zWd_loc (d := 3) (by decide)) (zrg hS (by decide))) kv_X2_360 (3 + 5) (zWd_loc (d := 3) (by decide)) rfl rfl rfl (Nat.le_of_ble_eq_true rfl) ⟨(Nat.le_of_ble_eq_true rfl), (Nat.le_of_ble_eq_true rfl)⟩ ⟨(Nat.le_of_ble_eq_true rfl), (Nat.le_of_ble_eq_true rfl)⟩ dX2_withDatePairs_74 (fun _ _ z => False.elim z) (fun v9 ws9 h127 => ?_)
  obtain ⟨rfl, hw9⟩ := h127
  subst ws9
  dsimp only [mPush]
  refine r_selL hX dX2_withDatePairs_77 dX2_withDatePairs_80 dX2_withDatePairs_81 dX2_withDatePairs_84 ?_
  refine r_callS hX (z_X2_added _ _ _ _) ks_X2_247 rfl rfl (Nat.le_of_ble_eq_true rfl) ⟨(Nat.le_of_ble_eq_true rfl), (Nat.le_of_ble_eq_true rfl)⟩ ⟨(Nat.le_of_ble_eq_true rfl), (Nat.le_of_ble_eq_true rfl)⟩ dX2_withDatePairs_85 (fun _ _ z => False.elim z) (fun v9 ws9 h128 => ?_)
  obtain ⟨rfl, hw9⟩ := h128
  subst ws9
  dsimp only [mPush]
  refine r_lstore_n hX dX2_withDatePairs_88 rfl (by decide) rfl ?_
  refine r_iincZ (z := 1) (y := 4) hX dX2_withDatePairs_89 rfl (by decide) rfl rfl ?_
  refine r_goto (tgt := 18) hX dX2_withDatePairs_92 (by decide) ?_
  refine r_iload hX dX2_withDatePairs_18 rfl ?_
  refine r_aload_n hX dX2_withDatePairs_20 rfl rfl ?_
  refine r_get hX kf_X2_20 0 rfl rfl dX2_withDatePairs_21 ?_
  refine r_alen (v := iZ 4) hX 3 2 rfl rfl rfl dX2_withDatePairs_24 ?_
  refine r_icmp_geZ (tgt := 95) hX dX2_withDatePairs_25 (by decide) (by decide) (by decide) (fun _ => ?_) (fun q => absurd (by decide) q)
  refine r_iincZ (z := 1) (y := 4) hX dX2_withDatePairs_95 rfl (by decide) rfl rfl ?_
  refine r_goto (tgt := 5) hX dX2_withDatePairs_98 (by decide) ?_
  refine r_iload hX dX2_withDatePairs_5 rfl ?_
  refine r_aload_n hX dX2_withDatePairs_7 rfl rfl ?_
  refine r_get hX kf_X2_20 0 rfl rfl dX2_withDatePairs_8 ?_
  refine r_alen (v := iZ 4) hX 3 2 rfl rfl rfl dX2_withDatePairs_11 ?_
  refine r_icmp_geZ (tgt := 101) hX dX2_withDatePairs_12 (by decide) (by decide) (by decide) (fun _ => ?_) (fun q => absurd (by decide) q)
  refine r_lload_n hX dX2_withDatePairs_101 rfl rfl ?_
  exact r_lret hX hE dX2_withDatePairs_102 (Nat.le_of_ble_eq_true rfl) (Nat.le_of_ble_eq_true rfl) ⟨zl rfl, rfl⟩
set_option maxHeartbeats 4000000 in
set_option maxRecDepth 20000 in
theorem z_X2_withClockPairs (ad : Nat → Nat) (cs : ClassId × ClassId × ClassId) (S : mS) (T : mT2) (rest : va_W) (hS : sWF S) (s : Int)  : mCt (mTy cs) yX2_withClockPairs cX2_withClockPairs 7 (some .long) ⟨3, 0, 0, 67⟩ [.ref (ad 0), .long (lZ s)] (mWd ad cs (mKof S T) rest) (fun v ws' => v = some (.long (lZ (dCp S s))) ∧ ws' = (mWd ad cs (mKof S T) rest)) mNo := by
  refine mCt.of (by decide +kernel) (Nat.le_of_ble_eq_true rfl) (fun X hX hE => ?_)
  replace hX : mOK X RX2 cX2_withClockPairs 7 ⟨3, 0, 0, 67⟩ [] (mTy cs) := hX
  refine r_lload_n hX dX2_withClockPairs_0 rfl rfl ?_
  refine r_lstore_n hX dX2_withClockPairs_1 rfl (by decide) rfl ?_
  refine r_iconstZ hX dX2_withClockPairs_2 ?_
  refine r_istore hX dX2_withClockPairs_3 (by decide) rfl ?_
  refine r_iload hX dX2_withClockPairs_5 rfl ?_
  refine r_aload_n hX dX2_withClockPairs_7 rfl rfl ?_
  refine r_get hX kf_X2_24 0 rfl rfl dX2_withClockPairs_8 ?_
  refine r_alen (v := iZ 3) hX 4 2 rfl rfl rfl dX2_withClockPairs_11 ?_
  refine r_icmp_geZ (tgt := 67) hX dX2_withClockPairs_12 (by decide) (by decide) (by decide) (fun q => absurd q (by decide)) (fun _ => ?_)
  refine r_iconstZ hX dX2_withClockPairs_15 ?_
  refine r_istore hX dX2_withClockPairs_16 (by decide) rfl ?_
  refine r_iload hX dX2_withClockPairs_18 rfl ?_
  refine r_aload_n hX dX2_withClockPairs_20 rfl rfl ?_
  refine r_get hX kf_X2_24 0 rfl rfl dX2_withClockPairs_21 ?_
  refine r_alen (v := iZ 3) hX 4 2 rfl rfl rfl dX2_withClockPairs_24 ?_
  refine r_icmp_geZ (tgt := 61) hX dX2_withClockPairs_25 (by decide) (by decide) (by decide) (fun q => absurd q (by decide)) (fun _ => ?_)
  refine r_lload_n hX dX2_withClockPairs_28 rfl rfl ?_
  refine r_aload_n hX dX2_withClockPairs_29 rfl rfl ?_
  refine r_get hX kf_X2_24 0 rfl rfl dX2_withClockPairs_30 ?_
  refine r_iload hX dX2_withClockPairs_33 rfl ?_
  refine r_callS hX (z_X2_at_ok ad cs _ 4 _ 3 4 rfl (by decide) _ 0 (by omega) (by decide)) ks_X2_84 rfl rfl (Nat.le_of_ble_eq_true rfl) ⟨(Nat.le_of_ble_eq_true rfl), (Nat.le_of_ble_eq_true rfl)⟩ ⟨(Nat.le_of_ble_eq_true rfl), (Nat.le_of_ble_eq_true rfl)⟩ dX2_withClockPairs_35 (fun _ _ z => False.elim z) (fun v9 ws9 h1 => ?_)
  obtain ⟨rfl, hw9⟩ := h1
  subst ws9
  dsimp only [mPush]
  refine r_aload_n hX dX2_withClockPairs_38 rfl rfl ?_
  refine r_get hX kf_X2_24 0 rfl rfl dX2_withClockPairs_39 ?_
  refine r_iload hX dX2_withClockPairs_42 rfl ?_
  refine r_callS hX (z_X2_at_ok ad cs _ 4 _ 3 4 rfl (by decide) _ 0 (by omega) (by decide)) ks_X2_84 rfl rfl (Nat.le_of_ble_eq_true rfl) ⟨(Nat.le_of_ble_eq_true rfl), (Nat.le_of_ble_eq_true rfl)⟩ ⟨(Nat.le_of_ble_eq_true rfl), (Nat.le_of_ble_eq_true rfl)⟩ dX2_withClockPairs_44 (fun _ _ z => False.elim z) (fun v9 ws9 h2 => ?_)
  obtain ⟨rfl, hw9⟩ := h2
  subst ws9
  dsimp only [mPush]
  refine r_callV hX (z_X1_orderTo _ _ (4 + 5) _ _ _ _ (zWd_loc (d := 4) (by decide)) (zrg hS (by decide)) (4 + 5) _ _ _ _ (zWd_loc (d := 4) (by decide)) (zrg hS (by decide))) kv_X2_179 (4 + 5) (zWd_loc (d := 4) (by decide)) rfl rfl rfl (Nat.le_of_ble_eq_true rfl) ⟨(Nat.le_of_ble_eq_true rfl), (Nat.le_of_ble_eq_true rfl)⟩ ⟨(Nat.le_of_ble_eq_true rfl), (Nat.le_of_ble_eq_true rfl)⟩ dX2_withClockPairs_47 (fun _ _ z => False.elim z) (fun v9 ws9 h3 => ?_)
  obtain ⟨rfl, hw9⟩ := h3
  subst ws9
  dsimp only [mPush]
  have hb3 := zTo_b (sse S 4) (sna S 4) (sow S 4) (sse S 4) (sna S 4) (sow S 4)
  refine r_i2lZ hX dX2_withClockPairs_50 (by omega) ?_
  refine r_callS hX (z_X2_added _ _ _ _) ks_X2_247 rfl rfl (Nat.le_of_ble_eq_true rfl) ⟨(Nat.le_of_ble_eq_true rfl), (Nat.le_of_ble_eq_true rfl)⟩ ⟨(Nat.le_of_ble_eq_true rfl), (Nat.le_of_ble_eq_true rfl)⟩ dX2_withClockPairs_51 (fun _ _ z => False.elim z) (fun v9 ws9 h4 => ?_)
  obtain ⟨rfl, hw9⟩ := h4
  subst ws9
  dsimp only [mPush]
  refine r_lstore_n hX dX2_withClockPairs_54 rfl (by decide) rfl ?_
  refine r_iincZ (z := 1) (y := 1) hX dX2_withClockPairs_55 rfl (by decide) rfl rfl ?_
  refine r_goto (tgt := 18) hX dX2_withClockPairs_58 (by decide) ?_
  refine r_iload hX dX2_withClockPairs_18 rfl ?_
  refine r_aload_n hX dX2_withClockPairs_20 rfl rfl ?_
  refine r_get hX kf_X2_24 0 rfl rfl dX2_withClockPairs_21 ?_
  refine r_alen (v := iZ 3) hX 4 2 rfl rfl rfl dX2_withClockPairs_24 ?_
  refine r_icmp_geZ (tgt := 61) hX dX2_withClockPairs_25 (by decide) (by decide) (by decide) (fun q => absurd q (by decide)) (fun _ => ?_)
  refine r_lload_n hX dX2_withClockPairs_28 rfl rfl ?_
  refine r_aload_n hX dX2_withClockPairs_29 rfl rfl ?_
  refine r_get hX kf_X2_24 0 rfl rfl dX2_withClockPairs_30 ?_
  refine r_iload hX dX2_withClockPairs_33 rfl ?_
  refine r_callS hX (z_X2_at_ok ad cs _ 4 _ 3 4 rfl (by decide) _ 0 (by omega) (by decide)) ks_X2_84 rfl rfl (Nat.le_of_ble_eq_true rfl) ⟨(Nat.le_of_ble_eq_true rfl), (Nat.le_of_ble_eq_true rfl)⟩ ⟨(Nat.le_of_ble_eq_true rfl), (Nat.le_of_ble_eq_true rfl)⟩ dX2_withClockPairs_35 (fun _ _ z => False.elim z) (fun v9 ws9 h5 => ?_)
  obtain ⟨rfl, hw9⟩ := h5
  subst ws9
  dsimp only [mPush]
  refine r_aload_n hX dX2_withClockPairs_38 rfl rfl ?_
  refine r_get hX kf_X2_24 0 rfl rfl dX2_withClockPairs_39 ?_
  refine r_iload hX dX2_withClockPairs_42 rfl ?_
  refine r_callS hX (z_X2_at_ok ad cs _ 4 _ 3 4 rfl (by decide) _ 1 (by omega) (by decide)) ks_X2_84 rfl rfl (Nat.le_of_ble_eq_true rfl) ⟨(Nat.le_of_ble_eq_true rfl), (Nat.le_of_ble_eq_true rfl)⟩ ⟨(Nat.le_of_ble_eq_true rfl), (Nat.le_of_ble_eq_true rfl)⟩ dX2_withClockPairs_44 (fun _ _ z => False.elim z) (fun v9 ws9 h6 => ?_)
  obtain ⟨rfl, hw9⟩ := h6
  subst ws9
  dsimp only [mPush]
  refine r_callV hX (z_X1_orderTo _ _ (4 + 5) _ _ _ _ (zWd_loc (d := 4) (by decide)) (zrg hS (by decide)) (5 + 5) _ _ _ _ (zWd_loc (d := 5) (by decide)) (zrg hS (by decide))) kv_X2_179 (4 + 5) (zWd_loc (d := 4) (by decide)) rfl rfl rfl (Nat.le_of_ble_eq_true rfl) ⟨(Nat.le_of_ble_eq_true rfl), (Nat.le_of_ble_eq_true rfl)⟩ ⟨(Nat.le_of_ble_eq_true rfl), (Nat.le_of_ble_eq_true rfl)⟩ dX2_withClockPairs_47 (fun _ _ z => False.elim z) (fun v9 ws9 h7 => ?_)
  obtain ⟨rfl, hw9⟩ := h7
  subst ws9
  dsimp only [mPush]
  have hb7 := zTo_b (sse S 4) (sna S 4) (sow S 4) (sse S 5) (sna S 5) (sow S 5)
  refine r_i2lZ hX dX2_withClockPairs_50 (by omega) ?_
  refine r_callS hX (z_X2_added _ _ _ _) ks_X2_247 rfl rfl (Nat.le_of_ble_eq_true rfl) ⟨(Nat.le_of_ble_eq_true rfl), (Nat.le_of_ble_eq_true rfl)⟩ ⟨(Nat.le_of_ble_eq_true rfl), (Nat.le_of_ble_eq_true rfl)⟩ dX2_withClockPairs_51 (fun _ _ z => False.elim z) (fun v9 ws9 h8 => ?_)
  obtain ⟨rfl, hw9⟩ := h8
  subst ws9
  dsimp only [mPush]
  refine r_lstore_n hX dX2_withClockPairs_54 rfl (by decide) rfl ?_
  refine r_iincZ (z := 1) (y := 2) hX dX2_withClockPairs_55 rfl (by decide) rfl rfl ?_
  refine r_goto (tgt := 18) hX dX2_withClockPairs_58 (by decide) ?_
  refine r_iload hX dX2_withClockPairs_18 rfl ?_
  refine r_aload_n hX dX2_withClockPairs_20 rfl rfl ?_
  refine r_get hX kf_X2_24 0 rfl rfl dX2_withClockPairs_21 ?_
  refine r_alen (v := iZ 3) hX 4 2 rfl rfl rfl dX2_withClockPairs_24 ?_
  refine r_icmp_geZ (tgt := 61) hX dX2_withClockPairs_25 (by decide) (by decide) (by decide) (fun q => absurd q (by decide)) (fun _ => ?_)
  refine r_lload_n hX dX2_withClockPairs_28 rfl rfl ?_
  refine r_aload_n hX dX2_withClockPairs_29 rfl rfl ?_
  refine r_get hX kf_X2_24 0 rfl rfl dX2_withClockPairs_30 ?_
  refine r_iload hX dX2_withClockPairs_33 rfl ?_
  refine r_callS hX (z_X2_at_ok ad cs _ 4 _ 3 4 rfl (by decide) _ 0 (by omega) (by decide)) ks_X2_84 rfl rfl (Nat.le_of_ble_eq_true rfl) ⟨(Nat.le_of_ble_eq_true rfl), (Nat.le_of_ble_eq_true rfl)⟩ ⟨(Nat.le_of_ble_eq_true rfl), (Nat.le_of_ble_eq_true rfl)⟩ dX2_withClockPairs_35 (fun _ _ z => False.elim z) (fun v9 ws9 h9 => ?_)
  obtain ⟨rfl, hw9⟩ := h9
  subst ws9
  dsimp only [mPush]
  refine r_aload_n hX dX2_withClockPairs_38 rfl rfl ?_
  refine r_get hX kf_X2_24 0 rfl rfl dX2_withClockPairs_39 ?_
  refine r_iload hX dX2_withClockPairs_42 rfl ?_
  refine r_callS hX (z_X2_at_ok ad cs _ 4 _ 3 4 rfl (by decide) _ 2 (by omega) (by decide)) ks_X2_84 rfl rfl (Nat.le_of_ble_eq_true rfl) ⟨(Nat.le_of_ble_eq_true rfl), (Nat.le_of_ble_eq_true rfl)⟩ ⟨(Nat.le_of_ble_eq_true rfl), (Nat.le_of_ble_eq_true rfl)⟩ dX2_withClockPairs_44 (fun _ _ z => False.elim z) (fun v9 ws9 h10 => ?_)
  obtain ⟨rfl, hw9⟩ := h10
  subst ws9
  dsimp only [mPush]
  refine r_callV hX (z_X1_orderTo _ _ (4 + 5) _ _ _ _ (zWd_loc (d := 4) (by decide)) (zrg hS (by decide)) (6 + 5) _ _ _ _ (zWd_loc (d := 6) (by decide)) (zrg hS (by decide))) kv_X2_179 (4 + 5) (zWd_loc (d := 4) (by decide)) rfl rfl rfl (Nat.le_of_ble_eq_true rfl) ⟨(Nat.le_of_ble_eq_true rfl), (Nat.le_of_ble_eq_true rfl)⟩ ⟨(Nat.le_of_ble_eq_true rfl), (Nat.le_of_ble_eq_true rfl)⟩ dX2_withClockPairs_47 (fun _ _ z => False.elim z) (fun v9 ws9 h11 => ?_)
  obtain ⟨rfl, hw9⟩ := h11
  subst ws9
  dsimp only [mPush]
  have hb11 := zTo_b (sse S 4) (sna S 4) (sow S 4) (sse S 6) (sna S 6) (sow S 6)
  refine r_i2lZ hX dX2_withClockPairs_50 (by omega) ?_
  refine r_callS hX (z_X2_added _ _ _ _) ks_X2_247 rfl rfl (Nat.le_of_ble_eq_true rfl) ⟨(Nat.le_of_ble_eq_true rfl), (Nat.le_of_ble_eq_true rfl)⟩ ⟨(Nat.le_of_ble_eq_true rfl), (Nat.le_of_ble_eq_true rfl)⟩ dX2_withClockPairs_51 (fun _ _ z => False.elim z) (fun v9 ws9 h12 => ?_)
  obtain ⟨rfl, hw9⟩ := h12
  subst ws9
  dsimp only [mPush]
  refine r_lstore_n hX dX2_withClockPairs_54 rfl (by decide) rfl ?_
  refine r_iincZ (z := 1) (y := 3) hX dX2_withClockPairs_55 rfl (by decide) rfl rfl ?_
  refine r_goto (tgt := 18) hX dX2_withClockPairs_58 (by decide) ?_
  refine r_iload hX dX2_withClockPairs_18 rfl ?_
  refine r_aload_n hX dX2_withClockPairs_20 rfl rfl ?_
  refine r_get hX kf_X2_24 0 rfl rfl dX2_withClockPairs_21 ?_
  refine r_alen (v := iZ 3) hX 4 2 rfl rfl rfl dX2_withClockPairs_24 ?_
  refine r_icmp_geZ (tgt := 61) hX dX2_withClockPairs_25 (by decide) (by decide) (by decide) (fun _ => ?_) (fun q => absurd (by decide) q)
  refine r_iincZ (z := 1) (y := 1) hX dX2_withClockPairs_61 rfl (by decide) rfl rfl ?_
  refine r_goto (tgt := 5) hX dX2_withClockPairs_64 (by decide) ?_
  refine r_iload hX dX2_withClockPairs_5 rfl ?_
  refine r_aload_n hX dX2_withClockPairs_7 rfl rfl ?_
  refine r_get hX kf_X2_24 0 rfl rfl dX2_withClockPairs_8 ?_
  refine r_alen (v := iZ 3) hX 4 2 rfl rfl rfl dX2_withClockPairs_11 ?_
  refine r_icmp_geZ (tgt := 67) hX dX2_withClockPairs_12 (by decide) (by decide) (by decide) (fun q => absurd q (by decide)) (fun _ => ?_)
  refine r_iconstZ hX dX2_withClockPairs_15 ?_
  refine r_istore hX dX2_withClockPairs_16 (by decide) rfl ?_
  refine r_iload hX dX2_withClockPairs_18 rfl ?_
  refine r_aload_n hX dX2_withClockPairs_20 rfl rfl ?_
  refine r_get hX kf_X2_24 0 rfl rfl dX2_withClockPairs_21 ?_
  refine r_alen (v := iZ 3) hX 4 2 rfl rfl rfl dX2_withClockPairs_24 ?_
  refine r_icmp_geZ (tgt := 61) hX dX2_withClockPairs_25 (by decide) (by decide) (by decide) (fun q => absurd q (by decide)) (fun _ => ?_)
  refine r_lload_n hX dX2_withClockPairs_28 rfl rfl ?_
  refine r_aload_n hX dX2_withClockPairs_29 rfl rfl ?_
  refine r_get hX kf_X2_24 0 rfl rfl dX2_withClockPairs_30 ?_
  refine r_iload hX dX2_withClockPairs_33 rfl ?_
  refine r_callS hX (z_X2_at_ok ad cs _ 4 _ 3 4 rfl (by decide) _ 1 (by omega) (by decide)) ks_X2_84 rfl rfl (Nat.le_of_ble_eq_true rfl) ⟨(Nat.le_of_ble_eq_true rfl), (Nat.le_of_ble_eq_true rfl)⟩ ⟨(Nat.le_of_ble_eq_true rfl), (Nat.le_of_ble_eq_true rfl)⟩ dX2_withClockPairs_35 (fun _ _ z => False.elim z) (fun v9 ws9 h13 => ?_)
  obtain ⟨rfl, hw9⟩ := h13
  subst ws9
  dsimp only [mPush]
  refine r_aload_n hX dX2_withClockPairs_38 rfl rfl ?_
  refine r_get hX kf_X2_24 0 rfl rfl dX2_withClockPairs_39 ?_
  refine r_iload hX dX2_withClockPairs_42 rfl ?_
  refine r_callS hX (z_X2_at_ok ad cs _ 4 _ 3 4 rfl (by decide) _ 0 (by omega) (by decide)) ks_X2_84 rfl rfl (Nat.le_of_ble_eq_true rfl) ⟨(Nat.le_of_ble_eq_true rfl), (Nat.le_of_ble_eq_true rfl)⟩ ⟨(Nat.le_of_ble_eq_true rfl), (Nat.le_of_ble_eq_true rfl)⟩ dX2_withClockPairs_44 (fun _ _ z => False.elim z) (fun v9 ws9 h14 => ?_)
  obtain ⟨rfl, hw9⟩ := h14
  subst ws9
  dsimp only [mPush]
  refine r_callV hX (z_X1_orderTo _ _ (5 + 5) _ _ _ _ (zWd_loc (d := 5) (by decide)) (zrg hS (by decide)) (4 + 5) _ _ _ _ (zWd_loc (d := 4) (by decide)) (zrg hS (by decide))) kv_X2_179 (5 + 5) (zWd_loc (d := 5) (by decide)) rfl rfl rfl (Nat.le_of_ble_eq_true rfl) ⟨(Nat.le_of_ble_eq_true rfl), (Nat.le_of_ble_eq_true rfl)⟩ ⟨(Nat.le_of_ble_eq_true rfl), (Nat.le_of_ble_eq_true rfl)⟩ dX2_withClockPairs_47 (fun _ _ z => False.elim z) (fun v9 ws9 h15 => ?_)
  obtain ⟨rfl, hw9⟩ := h15
  subst ws9
  dsimp only [mPush]
  have hb15 := zTo_b (sse S 5) (sna S 5) (sow S 5) (sse S 4) (sna S 4) (sow S 4)
  refine r_i2lZ hX dX2_withClockPairs_50 (by omega) ?_
  refine r_callS hX (z_X2_added _ _ _ _) ks_X2_247 rfl rfl (Nat.le_of_ble_eq_true rfl) ⟨(Nat.le_of_ble_eq_true rfl), (Nat.le_of_ble_eq_true rfl)⟩ ⟨(Nat.le_of_ble_eq_true rfl), (Nat.le_of_ble_eq_true rfl)⟩ dX2_withClockPairs_51 (fun _ _ z => False.elim z) (fun v9 ws9 h16 => ?_)
  obtain ⟨rfl, hw9⟩ := h16
  subst ws9
  dsimp only [mPush]
  refine r_lstore_n hX dX2_withClockPairs_54 rfl (by decide) rfl ?_
  refine r_iincZ (z := 1) (y := 1) hX dX2_withClockPairs_55 rfl (by decide) rfl rfl ?_
  refine r_goto (tgt := 18) hX dX2_withClockPairs_58 (by decide) ?_
  refine r_iload hX dX2_withClockPairs_18 rfl ?_
  refine r_aload_n hX dX2_withClockPairs_20 rfl rfl ?_
  refine r_get hX kf_X2_24 0 rfl rfl dX2_withClockPairs_21 ?_
  refine r_alen (v := iZ 3) hX 4 2 rfl rfl rfl dX2_withClockPairs_24 ?_
  refine r_icmp_geZ (tgt := 61) hX dX2_withClockPairs_25 (by decide) (by decide) (by decide) (fun q => absurd q (by decide)) (fun _ => ?_)
  refine r_lload_n hX dX2_withClockPairs_28 rfl rfl ?_
  refine r_aload_n hX dX2_withClockPairs_29 rfl rfl ?_
  refine r_get hX kf_X2_24 0 rfl rfl dX2_withClockPairs_30 ?_
  refine r_iload hX dX2_withClockPairs_33 rfl ?_
  refine r_callS hX (z_X2_at_ok ad cs _ 4 _ 3 4 rfl (by decide) _ 1 (by omega) (by decide)) ks_X2_84 rfl rfl (Nat.le_of_ble_eq_true rfl) ⟨(Nat.le_of_ble_eq_true rfl), (Nat.le_of_ble_eq_true rfl)⟩ ⟨(Nat.le_of_ble_eq_true rfl), (Nat.le_of_ble_eq_true rfl)⟩ dX2_withClockPairs_35 (fun _ _ z => False.elim z) (fun v9 ws9 h17 => ?_)
  obtain ⟨rfl, hw9⟩ := h17
  subst ws9
  dsimp only [mPush]
  refine r_aload_n hX dX2_withClockPairs_38 rfl rfl ?_
  refine r_get hX kf_X2_24 0 rfl rfl dX2_withClockPairs_39 ?_
  refine r_iload hX dX2_withClockPairs_42 rfl ?_
  refine r_callS hX (z_X2_at_ok ad cs _ 4 _ 3 4 rfl (by decide) _ 1 (by omega) (by decide)) ks_X2_84 rfl rfl (Nat.le_of_ble_eq_true rfl) ⟨(Nat.le_of_ble_eq_true rfl), (Nat.le_of_ble_eq_true rfl)⟩ ⟨(Nat.le_of_ble_eq_true rfl), (Nat.le_of_ble_eq_true rfl)⟩ dX2_withClockPairs_44 (fun _ _ z => False.elim z) (fun v9 ws9 h18 => ?_)
  obtain ⟨rfl, hw9⟩ := h18
  subst ws9
  dsimp only [mPush]
  refine r_callV hX (z_X1_orderTo _ _ (5 + 5) _ _ _ _ (zWd_loc (d := 5) (by decide)) (zrg hS (by decide)) (5 + 5) _ _ _ _ (zWd_loc (d := 5) (by decide)) (zrg hS (by decide))) kv_X2_179 (5 + 5) (zWd_loc (d := 5) (by decide)) rfl rfl rfl (Nat.le_of_ble_eq_true rfl) ⟨(Nat.le_of_ble_eq_true rfl), (Nat.le_of_ble_eq_true rfl)⟩ ⟨(Nat.le_of_ble_eq_true rfl), (Nat.le_of_ble_eq_true rfl)⟩ dX2_withClockPairs_47 (fun _ _ z => False.elim z) (fun v9 ws9 h19 => ?_)
  obtain ⟨rfl, hw9⟩ := h19
  subst ws9
  dsimp only [mPush]
  have hb19 := zTo_b (sse S 5) (sna S 5) (sow S 5) (sse S 5) (sna S 5) (sow S 5)
  refine r_i2lZ hX dX2_withClockPairs_50 (by omega) ?_
  refine r_callS hX (z_X2_added _ _ _ _) ks_X2_247 rfl rfl (Nat.le_of_ble_eq_true rfl) ⟨(Nat.le_of_ble_eq_true rfl), (Nat.le_of_ble_eq_true rfl)⟩ ⟨(Nat.le_of_ble_eq_true rfl), (Nat.le_of_ble_eq_true rfl)⟩ dX2_withClockPairs_51 (fun _ _ z => False.elim z) (fun v9 ws9 h20 => ?_)
  obtain ⟨rfl, hw9⟩ := h20
  subst ws9
  dsimp only [mPush]
  refine r_lstore_n hX dX2_withClockPairs_54 rfl (by decide) rfl ?_
  refine r_iincZ (z := 1) (y := 2) hX dX2_withClockPairs_55 rfl (by decide) rfl rfl ?_
  refine r_goto (tgt := 18) hX dX2_withClockPairs_58 (by decide) ?_
  refine r_iload hX dX2_withClockPairs_18 rfl ?_
  refine r_aload_n hX dX2_withClockPairs_20 rfl rfl ?_
  refine r_get hX kf_X2_24 0 rfl rfl dX2_withClockPairs_21 ?_
  refine r_alen (v := iZ 3) hX 4 2 rfl rfl rfl dX2_withClockPairs_24 ?_
  refine r_icmp_geZ (tgt := 61) hX dX2_withClockPairs_25 (by decide) (by decide) (by decide) (fun q => absurd q (by decide)) (fun _ => ?_)
  refine r_lload_n hX dX2_withClockPairs_28 rfl rfl ?_
  refine r_aload_n hX dX2_withClockPairs_29 rfl rfl ?_
  refine r_get hX kf_X2_24 0 rfl rfl dX2_withClockPairs_30 ?_
  refine r_iload hX dX2_withClockPairs_33 rfl ?_
  refine r_callS hX (z_X2_at_ok ad cs _ 4 _ 3 4 rfl (by decide) _ 1 (by omega) (by decide)) ks_X2_84 rfl rfl (Nat.le_of_ble_eq_true rfl) ⟨(Nat.le_of_ble_eq_true rfl), (Nat.le_of_ble_eq_true rfl)⟩ ⟨(Nat.le_of_ble_eq_true rfl), (Nat.le_of_ble_eq_true rfl)⟩ dX2_withClockPairs_35 (fun _ _ z => False.elim z) (fun v9 ws9 h21 => ?_)
  obtain ⟨rfl, hw9⟩ := h21
  subst ws9
  dsimp only [mPush]
  refine r_aload_n hX dX2_withClockPairs_38 rfl rfl ?_
  refine r_get hX kf_X2_24 0 rfl rfl dX2_withClockPairs_39 ?_
  refine r_iload hX dX2_withClockPairs_42 rfl ?_
  refine r_callS hX (z_X2_at_ok ad cs _ 4 _ 3 4 rfl (by decide) _ 2 (by omega) (by decide)) ks_X2_84 rfl rfl (Nat.le_of_ble_eq_true rfl) ⟨(Nat.le_of_ble_eq_true rfl), (Nat.le_of_ble_eq_true rfl)⟩ ⟨(Nat.le_of_ble_eq_true rfl), (Nat.le_of_ble_eq_true rfl)⟩ dX2_withClockPairs_44 (fun _ _ z => False.elim z) (fun v9 ws9 h22 => ?_)
  obtain ⟨rfl, hw9⟩ := h22
  subst ws9
  dsimp only [mPush]
  refine r_callV hX (z_X1_orderTo _ _ (5 + 5) _ _ _ _ (zWd_loc (d := 5) (by decide)) (zrg hS (by decide)) (6 + 5) _ _ _ _ (zWd_loc (d := 6) (by decide)) (zrg hS (by decide))) kv_X2_179 (5 + 5) (zWd_loc (d := 5) (by decide)) rfl rfl rfl (Nat.le_of_ble_eq_true rfl) ⟨(Nat.le_of_ble_eq_true rfl), (Nat.le_of_ble_eq_true rfl)⟩ ⟨(Nat.le_of_ble_eq_true rfl), (Nat.le_of_ble_eq_true rfl)⟩ dX2_withClockPairs_47 (fun _ _ z => False.elim z) (fun v9 ws9 h23 => ?_)
  obtain ⟨rfl, hw9⟩ := h23
  subst ws9
  dsimp only [mPush]
  have hb23 := zTo_b (sse S 5) (sna S 5) (sow S 5) (sse S 6) (sna S 6) (sow S 6)
  refine r_i2lZ hX dX2_withClockPairs_50 (by omega) ?_
  refine r_callS hX (z_X2_added _ _ _ _) ks_X2_247 rfl rfl (Nat.le_of_ble_eq_true rfl) ⟨(Nat.le_of_ble_eq_true rfl), (Nat.le_of_ble_eq_true rfl)⟩ ⟨(Nat.le_of_ble_eq_true rfl), (Nat.le_of_ble_eq_true rfl)⟩ dX2_withClockPairs_51 (fun _ _ z => False.elim z) (fun v9 ws9 h24 => ?_)
  obtain ⟨rfl, hw9⟩ := h24
  subst ws9
  dsimp only [mPush]
  refine r_lstore_n hX dX2_withClockPairs_54 rfl (by decide) rfl ?_
  refine r_iincZ (z := 1) (y := 3) hX dX2_withClockPairs_55 rfl (by decide) rfl rfl ?_
  refine r_goto (tgt := 18) hX dX2_withClockPairs_58 (by decide) ?_
  refine r_iload hX dX2_withClockPairs_18 rfl ?_
  refine r_aload_n hX dX2_withClockPairs_20 rfl rfl ?_
  refine r_get hX kf_X2_24 0 rfl rfl dX2_withClockPairs_21 ?_
  refine r_alen (v := iZ 3) hX 4 2 rfl rfl rfl dX2_withClockPairs_24 ?_
  refine r_icmp_geZ (tgt := 61) hX dX2_withClockPairs_25 (by decide) (by decide) (by decide) (fun _ => ?_) (fun q => absurd (by decide) q)
  refine r_iincZ (z := 1) (y := 2) hX dX2_withClockPairs_61 rfl (by decide) rfl rfl ?_
  refine r_goto (tgt := 5) hX dX2_withClockPairs_64 (by decide) ?_
  refine r_iload hX dX2_withClockPairs_5 rfl ?_
  refine r_aload_n hX dX2_withClockPairs_7 rfl rfl ?_
  refine r_get hX kf_X2_24 0 rfl rfl dX2_withClockPairs_8 ?_
  refine r_alen (v := iZ 3) hX 4 2 rfl rfl rfl dX2_withClockPairs_11 ?_
  refine r_icmp_geZ (tgt := 67) hX dX2_withClockPairs_12 (by decide) (by decide) (by decide) (fun q => absurd q (by decide)) (fun _ => ?_)
  refine r_iconstZ hX dX2_withClockPairs_15 ?_
  refine r_istore hX dX2_withClockPairs_16 (by decide) rfl ?_
  refine r_iload hX dX2_withClockPairs_18 rfl ?_
  refine r_aload_n hX dX2_withClockPairs_20 rfl rfl ?_
  refine r_get hX kf_X2_24 0 rfl rfl dX2_withClockPairs_21 ?_
  refine r_alen (v := iZ 3) hX 4 2 rfl rfl rfl dX2_withClockPairs_24 ?_
  refine r_icmp_geZ (tgt := 61) hX dX2_withClockPairs_25 (by decide) (by decide) (by decide) (fun q => absurd q (by decide)) (fun _ => ?_)
  refine r_lload_n hX dX2_withClockPairs_28 rfl rfl ?_
  refine r_aload_n hX dX2_withClockPairs_29 rfl rfl ?_
  refine r_get hX kf_X2_24 0 rfl rfl dX2_withClockPairs_30 ?_
  refine r_iload hX dX2_withClockPairs_33 rfl ?_
  refine r_callS hX (z_X2_at_ok ad cs _ 4 _ 3 4 rfl (by decide) _ 2 (by omega) (by decide)) ks_X2_84 rfl rfl (Nat.le_of_ble_eq_true rfl) ⟨(Nat.le_of_ble_eq_true rfl), (Nat.le_of_ble_eq_true rfl)⟩ ⟨(Nat.le_of_ble_eq_true rfl), (Nat.le_of_ble_eq_true rfl)⟩ dX2_withClockPairs_35 (fun _ _ z => False.elim z) (fun v9 ws9 h25 => ?_)
  obtain ⟨rfl, hw9⟩ := h25
  subst ws9
  dsimp only [mPush]
  refine r_aload_n hX dX2_withClockPairs_38 rfl rfl ?_
  refine r_get hX kf_X2_24 0 rfl rfl dX2_withClockPairs_39 ?_
  refine r_iload hX dX2_withClockPairs_42 rfl ?_
  refine r_callS hX (z_X2_at_ok ad cs _ 4 _ 3 4 rfl (by decide) _ 0 (by omega) (by decide)) ks_X2_84 rfl rfl (Nat.le_of_ble_eq_true rfl) ⟨(Nat.le_of_ble_eq_true rfl), (Nat.le_of_ble_eq_true rfl)⟩ ⟨(Nat.le_of_ble_eq_true rfl), (Nat.le_of_ble_eq_true rfl)⟩ dX2_withClockPairs_44 (fun _ _ z => False.elim z) (fun v9 ws9 h26 => ?_)
  obtain ⟨rfl, hw9⟩ := h26
  subst ws9
  dsimp only [mPush]
  refine r_callV hX (z_X1_orderTo _ _ (6 + 5) _ _ _ _ (zWd_loc (d := 6) (by decide)) (zrg hS (by decide)) (4 + 5) _ _ _ _ (zWd_loc (d := 4) (by decide)) (zrg hS (by decide))) kv_X2_179 (6 + 5) (zWd_loc (d := 6) (by decide)) rfl rfl rfl (Nat.le_of_ble_eq_true rfl) ⟨(Nat.le_of_ble_eq_true rfl), (Nat.le_of_ble_eq_true rfl)⟩ ⟨(Nat.le_of_ble_eq_true rfl), (Nat.le_of_ble_eq_true rfl)⟩ dX2_withClockPairs_47 (fun _ _ z => False.elim z) (fun v9 ws9 h27 => ?_)
  obtain ⟨rfl, hw9⟩ := h27
  subst ws9
  dsimp only [mPush]
  have hb27 := zTo_b (sse S 6) (sna S 6) (sow S 6) (sse S 4) (sna S 4) (sow S 4)
  refine r_i2lZ hX dX2_withClockPairs_50 (by omega) ?_
  refine r_callS hX (z_X2_added _ _ _ _) ks_X2_247 rfl rfl (Nat.le_of_ble_eq_true rfl) ⟨(Nat.le_of_ble_eq_true rfl), (Nat.le_of_ble_eq_true rfl)⟩ ⟨(Nat.le_of_ble_eq_true rfl), (Nat.le_of_ble_eq_true rfl)⟩ dX2_withClockPairs_51 (fun _ _ z => False.elim z) (fun v9 ws9 h28 => ?_)
  obtain ⟨rfl, hw9⟩ := h28
  subst ws9
  dsimp only [mPush]
  refine r_lstore_n hX dX2_withClockPairs_54 rfl (by decide) rfl ?_
  refine r_iincZ (z := 1) (y := 1) hX dX2_withClockPairs_55 rfl (by decide) rfl rfl ?_
  refine r_goto (tgt := 18) hX dX2_withClockPairs_58 (by decide) ?_
  refine r_iload hX dX2_withClockPairs_18 rfl ?_
  refine r_aload_n hX dX2_withClockPairs_20 rfl rfl ?_
  refine r_get hX kf_X2_24 0 rfl rfl dX2_withClockPairs_21 ?_
  refine r_alen (v := iZ 3) hX 4 2 rfl rfl rfl dX2_withClockPairs_24 ?_
  refine r_icmp_geZ (tgt := 61) hX dX2_withClockPairs_25 (by decide) (by decide) (by decide) (fun q => absurd q (by decide)) (fun _ => ?_)
  refine r_lload_n hX dX2_withClockPairs_28 rfl rfl ?_
  refine r_aload_n hX dX2_withClockPairs_29 rfl rfl ?_
  refine r_get hX kf_X2_24 0 rfl rfl dX2_withClockPairs_30 ?_
  refine r_iload hX dX2_withClockPairs_33 rfl ?_
  refine r_callS hX (z_X2_at_ok ad cs _ 4 _ 3 4 rfl (by decide) _ 2 (by omega) (by decide)) ks_X2_84 rfl rfl (Nat.le_of_ble_eq_true rfl) ⟨(Nat.le_of_ble_eq_true rfl), (Nat.le_of_ble_eq_true rfl)⟩ ⟨(Nat.le_of_ble_eq_true rfl), (Nat.le_of_ble_eq_true rfl)⟩ dX2_withClockPairs_35 (fun _ _ z => False.elim z) (fun v9 ws9 h29 => ?_)
  obtain ⟨rfl, hw9⟩ := h29
  subst ws9
  dsimp only [mPush]
  refine r_aload_n hX dX2_withClockPairs_38 rfl rfl ?_
  refine r_get hX kf_X2_24 0 rfl rfl dX2_withClockPairs_39 ?_
  refine r_iload hX dX2_withClockPairs_42 rfl ?_
  refine r_callS hX (z_X2_at_ok ad cs _ 4 _ 3 4 rfl (by decide) _ 1 (by omega) (by decide)) ks_X2_84 rfl rfl (Nat.le_of_ble_eq_true rfl) ⟨(Nat.le_of_ble_eq_true rfl), (Nat.le_of_ble_eq_true rfl)⟩ ⟨(Nat.le_of_ble_eq_true rfl), (Nat.le_of_ble_eq_true rfl)⟩ dX2_withClockPairs_44 (fun _ _ z => False.elim z) (fun v9 ws9 h30 => ?_)
  obtain ⟨rfl, hw9⟩ := h30
  subst ws9
  dsimp only [mPush]
  refine r_callV hX (z_X1_orderTo _ _ (6 + 5) _ _ _ _ (zWd_loc (d := 6) (by decide)) (zrg hS (by decide)) (5 + 5) _ _ _ _ (zWd_loc (d := 5) (by decide)) (zrg hS (by decide))) kv_X2_179 (6 + 5) (zWd_loc (d := 6) (by decide)) rfl rfl rfl (Nat.le_of_ble_eq_true rfl) ⟨(Nat.le_of_ble_eq_true rfl), (Nat.le_of_ble_eq_true rfl)⟩ ⟨(Nat.le_of_ble_eq_true rfl), (Nat.le_of_ble_eq_true rfl)⟩ dX2_withClockPairs_47 (fun _ _ z => False.elim z) (fun v9 ws9 h31 => ?_)
  obtain ⟨rfl, hw9⟩ := h31
  subst ws9
  dsimp only [mPush]
  have hb31 := zTo_b (sse S 6) (sna S 6) (sow S 6) (sse S 5) (sna S 5) (sow S 5)
  refine r_i2lZ hX dX2_withClockPairs_50 (by omega) ?_
  refine r_callS hX (z_X2_added _ _ _ _) ks_X2_247 rfl rfl (Nat.le_of_ble_eq_true rfl) ⟨(Nat.le_of_ble_eq_true rfl), (Nat.le_of_ble_eq_true rfl)⟩ ⟨(Nat.le_of_ble_eq_true rfl), (Nat.le_of_ble_eq_true rfl)⟩ dX2_withClockPairs_51 (fun _ _ z => False.elim z) (fun v9 ws9 h32 => ?_)
  obtain ⟨rfl, hw9⟩ := h32
  subst ws9
  dsimp only [mPush]
  refine r_lstore_n hX dX2_withClockPairs_54 rfl (by decide) rfl ?_
  refine r_iincZ (z := 1) (y := 2) hX dX2_withClockPairs_55 rfl (by decide) rfl rfl ?_
  refine r_goto (tgt := 18) hX dX2_withClockPairs_58 (by decide) ?_
  refine r_iload hX dX2_withClockPairs_18 rfl ?_
  refine r_aload_n hX dX2_withClockPairs_20 rfl rfl ?_
  refine r_get hX kf_X2_24 0 rfl rfl dX2_withClockPairs_21 ?_
  refine r_alen (v := iZ 3) hX 4 2 rfl rfl rfl dX2_withClockPairs_24 ?_
  refine r_icmp_geZ (tgt := 61) hX dX2_withClockPairs_25 (by decide) (by decide) (by decide) (fun q => absurd q (by decide)) (fun _ => ?_)
  refine r_lload_n hX dX2_withClockPairs_28 rfl rfl ?_
  refine r_aload_n hX dX2_withClockPairs_29 rfl rfl ?_
  refine r_get hX kf_X2_24 0 rfl rfl dX2_withClockPairs_30 ?_
  refine r_iload hX dX2_withClockPairs_33 rfl ?_
  refine r_callS hX (z_X2_at_ok ad cs _ 4 _ 3 4 rfl (by decide) _ 2 (by omega) (by decide)) ks_X2_84 rfl rfl (Nat.le_of_ble_eq_true rfl) ⟨(Nat.le_of_ble_eq_true rfl), (Nat.le_of_ble_eq_true rfl)⟩ ⟨(Nat.le_of_ble_eq_true rfl), (Nat.le_of_ble_eq_true rfl)⟩ dX2_withClockPairs_35 (fun _ _ z => False.elim z) (fun v9 ws9 h33 => ?_)
  obtain ⟨rfl, hw9⟩ := h33
  subst ws9
  dsimp only [mPush]
  refine r_aload_n hX dX2_withClockPairs_38 rfl rfl ?_
  refine r_get hX kf_X2_24 0 rfl rfl dX2_withClockPairs_39 ?_
  refine r_iload hX dX2_withClockPairs_42 rfl ?_
  refine r_callS hX (z_X2_at_ok ad cs _ 4 _ 3 4 rfl (by decide) _ 2 (by omega) (by decide)) ks_X2_84 rfl rfl (Nat.le_of_ble_eq_true rfl) ⟨(Nat.le_of_ble_eq_true rfl), (Nat.le_of_ble_eq_true rfl)⟩ ⟨(Nat.le_of_ble_eq_true rfl), (Nat.le_of_ble_eq_true rfl)⟩ dX2_withClockPairs_44 (fun _ _ z => False.elim z) (fun v9 ws9 h34 => ?_)
  obtain ⟨rfl, hw9⟩ := h34
  subst ws9
  dsimp only [mPush]
  refine r_callV hX (z_X1_orderTo _ _ (6 + 5) _ _ _ _ (zWd_loc (d := 6) (by decide)) (zrg hS (by decide)) (6 + 5) _ _ _ _ (zWd_loc (d := 6) (by decide)) (zrg hS (by decide))) kv_X2_179 (6 + 5) (zWd_loc (d := 6) (by decide)) rfl rfl rfl (Nat.le_of_ble_eq_true rfl) ⟨(Nat.le_of_ble_eq_true rfl), (Nat.le_of_ble_eq_true rfl)⟩ ⟨(Nat.le_of_ble_eq_true rfl), (Nat.le_of_ble_eq_true rfl)⟩ dX2_withClockPairs_47 (fun _ _ z => False.elim z) (fun v9 ws9 h35 => ?_)
  obtain ⟨rfl, hw9⟩ := h35
  subst ws9
  dsimp only [mPush]
  have hb35 := zTo_b (sse S 6) (sna S 6) (sow S 6) (sse S 6) (sna S 6) (sow S 6)
  refine r_i2lZ hX dX2_withClockPairs_50 (by omega) ?_
  refine r_callS hX (z_X2_added _ _ _ _) ks_X2_247 rfl rfl (Nat.le_of_ble_eq_true rfl) ⟨(Nat.le_of_ble_eq_true rfl), (Nat.le_of_ble_eq_true rfl)⟩ ⟨(Nat.le_of_ble_eq_true rfl), (Nat.le_of_ble_eq_true rfl)⟩ dX2_withClockPairs_51 (fun _ _ z => False.elim z) (fun v9 ws9 h36 => ?_)
  obtain ⟨rfl, hw9⟩ := h36
  subst ws9
  dsimp only [mPush]
  refine r_lstore_n hX dX2_withClockPairs_54 rfl (by decide) rfl ?_
  refine r_iincZ (z := 1) (y := 3) hX dX2_withClockPairs_55 rfl (by decide) rfl rfl ?_
  refine r_goto (tgt := 18) hX dX2_withClockPairs_58 (by decide) ?_
  refine r_iload hX dX2_withClockPairs_18 rfl ?_
  refine r_aload_n hX dX2_withClockPairs_20 rfl rfl ?_
  refine r_get hX kf_X2_24 0 rfl rfl dX2_withClockPairs_21 ?_
  refine r_alen (v := iZ 3) hX 4 2 rfl rfl rfl dX2_withClockPairs_24 ?_
  refine r_icmp_geZ (tgt := 61) hX dX2_withClockPairs_25 (by decide) (by decide) (by decide) (fun _ => ?_) (fun q => absurd (by decide) q)
  refine r_iincZ (z := 1) (y := 3) hX dX2_withClockPairs_61 rfl (by decide) rfl rfl ?_
  refine r_goto (tgt := 5) hX dX2_withClockPairs_64 (by decide) ?_
  refine r_iload hX dX2_withClockPairs_5 rfl ?_
  refine r_aload_n hX dX2_withClockPairs_7 rfl rfl ?_
  refine r_get hX kf_X2_24 0 rfl rfl dX2_withClockPairs_8 ?_
  refine r_alen (v := iZ 3) hX 4 2 rfl rfl rfl dX2_withClockPairs_11 ?_
  refine r_icmp_geZ (tgt := 67) hX dX2_withClockPairs_12 (by decide) (by decide) (by decide) (fun _ => ?_) (fun q => absurd (by decide) q)
  refine r_lload_n hX dX2_withClockPairs_67 rfl rfl ?_
  exact r_lret hX hE dX2_withClockPairs_68 (Nat.le_of_ble_eq_true rfl) (Nat.le_of_ble_eq_true rfl) ⟨zl rfl, rfl⟩
set_option maxHeartbeats 4000000 in
set_option maxRecDepth 20000 in
theorem z_X2_withHouse (ad : Nat → Nat) (cs : ClassId × ClassId × ClassId) (S : mS) (T : mT2) (rest : va_W) (hS : sWF S) (s : Int)  : mCt (mTy cs) yX2_withHouse cX2_withHouse 6 (some .long) ⟨8, 4, 24, 125⟩ [.ref (ad 0), .long (lZ s)] (mWd ad cs (mKof S T) rest) (fun v ws' => v = some (.long (lZ (dHo S s))) ∧ ws' = (mWd ad cs (mKof S T) rest)) mNo := by
  refine mCt.of (by decide +kernel) (Nat.le_of_ble_eq_true rfl) (fun X hX hE => ?_)
  replace hX : mOK X RX2 cX2_withHouse 6 ⟨8, 4, 24, 125⟩ [] (mTy cs) := hX
  refine r_lload_n hX dX2_withHouse_0 rfl rfl ?_
  refine r_lstore_n hX dX2_withHouse_1 rfl (by decide) rfl ?_
  refine r_iconstZ hX dX2_withHouse_2 ?_
  refine r_istore hX dX2_withHouse_3 (by decide) rfl ?_
  refine r_iload hX dX2_withHouse_5 rfl ?_
  refine r_iconstZ hX dX2_withHouse_7 ?_
  refine r_icmp_geZ (tgt := 29) hX dX2_withHouse_8 (by decide) (by decide) (by decide) (fun q => absurd q (by decide)) (fun _ => ?_)
  refine r_lload_n hX dX2_withHouse_11 rfl rfl ?_
  refine r_aload_n hX dX2_withHouse_12 rfl rfl ?_
  refine r_iload hX dX2_withHouse_13 rfl ?_
  refine r_callV hX (z_X2_house_ok ad cs S T rest hS _ (by omega)) kv_X2_380 0 rfl rfl rfl rfl (Nat.le_of_ble_eq_true rfl) ⟨(Nat.le_of_ble_eq_true rfl), (Nat.le_of_ble_eq_true rfl)⟩ ⟨(Nat.le_of_ble_eq_true rfl), (Nat.le_of_ble_eq_true rfl)⟩ dX2_withHouse_15 (fun _ _ z => False.elim z) (fun v9 ws9 h1 => ?_)
  obtain ⟨rfl, hw9⟩ := h1
  subst ws9
  dsimp only [mPush]
  try clear hho
  have hho := iZ_rng (zHo S 0)
  refine r_i2lZ hX dX2_withHouse_18 (by omega) ?_
  refine r_callS hX (z_X2_added _ _ _ _) ks_X2_247 rfl rfl (Nat.le_of_ble_eq_true rfl) ⟨(Nat.le_of_ble_eq_true rfl), (Nat.le_of_ble_eq_true rfl)⟩ ⟨(Nat.le_of_ble_eq_true rfl), (Nat.le_of_ble_eq_true rfl)⟩ dX2_withHouse_19 (fun _ _ z => False.elim z) (fun v9 ws9 h2 => ?_)
  obtain ⟨rfl, hw9⟩ := h2
  subst ws9
  dsimp only [mPush]
  refine r_lstore_n hX dX2_withHouse_22 rfl (by decide) rfl ?_
  refine r_iincZ (z := 1) (y := 1) hX dX2_withHouse_23 rfl (by decide) rfl rfl ?_
  refine r_goto (tgt := 5) hX dX2_withHouse_26 (by decide) ?_
  refine r_iload hX dX2_withHouse_5 rfl ?_
  refine r_iconstZ hX dX2_withHouse_7 ?_
  refine r_icmp_geZ (tgt := 29) hX dX2_withHouse_8 (by decide) (by decide) (by decide) (fun q => absurd q (by decide)) (fun _ => ?_)
  refine r_lload_n hX dX2_withHouse_11 rfl rfl ?_
  refine r_aload_n hX dX2_withHouse_12 rfl rfl ?_
  refine r_iload hX dX2_withHouse_13 rfl ?_
  refine r_callV hX (z_X2_house_ok ad cs S T rest hS _ (by omega)) kv_X2_380 0 rfl rfl rfl rfl (Nat.le_of_ble_eq_true rfl) ⟨(Nat.le_of_ble_eq_true rfl), (Nat.le_of_ble_eq_true rfl)⟩ ⟨(Nat.le_of_ble_eq_true rfl), (Nat.le_of_ble_eq_true rfl)⟩ dX2_withHouse_15 (fun _ _ z => False.elim z) (fun v9 ws9 h3 => ?_)
  obtain ⟨rfl, hw9⟩ := h3
  subst ws9
  dsimp only [mPush]
  try clear hho
  have hho := iZ_rng (zHo S 1)
  refine r_i2lZ hX dX2_withHouse_18 (by omega) ?_
  refine r_callS hX (z_X2_added _ _ _ _) ks_X2_247 rfl rfl (Nat.le_of_ble_eq_true rfl) ⟨(Nat.le_of_ble_eq_true rfl), (Nat.le_of_ble_eq_true rfl)⟩ ⟨(Nat.le_of_ble_eq_true rfl), (Nat.le_of_ble_eq_true rfl)⟩ dX2_withHouse_19 (fun _ _ z => False.elim z) (fun v9 ws9 h4 => ?_)
  obtain ⟨rfl, hw9⟩ := h4
  subst ws9
  dsimp only [mPush]
  refine r_lstore_n hX dX2_withHouse_22 rfl (by decide) rfl ?_
  refine r_iincZ (z := 1) (y := 2) hX dX2_withHouse_23 rfl (by decide) rfl rfl ?_
  refine r_goto (tgt := 5) hX dX2_withHouse_26 (by decide) ?_
  refine r_iload hX dX2_withHouse_5 rfl ?_
  refine r_iconstZ hX dX2_withHouse_7 ?_
  refine r_icmp_geZ (tgt := 29) hX dX2_withHouse_8 (by decide) (by decide) (by decide) (fun q => absurd q (by decide)) (fun _ => ?_)
  refine r_lload_n hX dX2_withHouse_11 rfl rfl ?_
  refine r_aload_n hX dX2_withHouse_12 rfl rfl ?_
  refine r_iload hX dX2_withHouse_13 rfl ?_
  refine r_callV hX (z_X2_house_ok ad cs S T rest hS _ (by omega)) kv_X2_380 0 rfl rfl rfl rfl (Nat.le_of_ble_eq_true rfl) ⟨(Nat.le_of_ble_eq_true rfl), (Nat.le_of_ble_eq_true rfl)⟩ ⟨(Nat.le_of_ble_eq_true rfl), (Nat.le_of_ble_eq_true rfl)⟩ dX2_withHouse_15 (fun _ _ z => False.elim z) (fun v9 ws9 h5 => ?_)
  obtain ⟨rfl, hw9⟩ := h5
  subst ws9
  dsimp only [mPush]
  try clear hho
  have hho := iZ_rng (zHo S 2)
  refine r_i2lZ hX dX2_withHouse_18 (by omega) ?_
  refine r_callS hX (z_X2_added _ _ _ _) ks_X2_247 rfl rfl (Nat.le_of_ble_eq_true rfl) ⟨(Nat.le_of_ble_eq_true rfl), (Nat.le_of_ble_eq_true rfl)⟩ ⟨(Nat.le_of_ble_eq_true rfl), (Nat.le_of_ble_eq_true rfl)⟩ dX2_withHouse_19 (fun _ _ z => False.elim z) (fun v9 ws9 h6 => ?_)
  obtain ⟨rfl, hw9⟩ := h6
  subst ws9
  dsimp only [mPush]
  refine r_lstore_n hX dX2_withHouse_22 rfl (by decide) rfl ?_
  refine r_iincZ (z := 1) (y := 3) hX dX2_withHouse_23 rfl (by decide) rfl rfl ?_
  refine r_goto (tgt := 5) hX dX2_withHouse_26 (by decide) ?_
  refine r_iload hX dX2_withHouse_5 rfl ?_
  refine r_iconstZ hX dX2_withHouse_7 ?_
  refine r_icmp_geZ (tgt := 29) hX dX2_withHouse_8 (by decide) (by decide) (by decide) (fun q => absurd q (by decide)) (fun _ => ?_)
  refine r_lload_n hX dX2_withHouse_11 rfl rfl ?_
  refine r_aload_n hX dX2_withHouse_12 rfl rfl ?_
  refine r_iload hX dX2_withHouse_13 rfl ?_
  refine r_callV hX (z_X2_house_ok ad cs S T rest hS _ (by omega)) kv_X2_380 0 rfl rfl rfl rfl (Nat.le_of_ble_eq_true rfl) ⟨(Nat.le_of_ble_eq_true rfl), (Nat.le_of_ble_eq_true rfl)⟩ ⟨(Nat.le_of_ble_eq_true rfl), (Nat.le_of_ble_eq_true rfl)⟩ dX2_withHouse_15 (fun _ _ z => False.elim z) (fun v9 ws9 h7 => ?_)
  obtain ⟨rfl, hw9⟩ := h7
  subst ws9
  dsimp only [mPush]
  try clear hho
  have hho := iZ_rng (zHo S 3)
  refine r_i2lZ hX dX2_withHouse_18 (by omega) ?_
  refine r_callS hX (z_X2_added _ _ _ _) ks_X2_247 rfl rfl (Nat.le_of_ble_eq_true rfl) ⟨(Nat.le_of_ble_eq_true rfl), (Nat.le_of_ble_eq_true rfl)⟩ ⟨(Nat.le_of_ble_eq_true rfl), (Nat.le_of_ble_eq_true rfl)⟩ dX2_withHouse_19 (fun _ _ z => False.elim z) (fun v9 ws9 h8 => ?_)
  obtain ⟨rfl, hw9⟩ := h8
  subst ws9
  dsimp only [mPush]
  refine r_lstore_n hX dX2_withHouse_22 rfl (by decide) rfl ?_
  refine r_iincZ (z := 1) (y := 4) hX dX2_withHouse_23 rfl (by decide) rfl rfl ?_
  refine r_goto (tgt := 5) hX dX2_withHouse_26 (by decide) ?_
  refine r_iload hX dX2_withHouse_5 rfl ?_
  refine r_iconstZ hX dX2_withHouse_7 ?_
  refine r_icmp_geZ (tgt := 29) hX dX2_withHouse_8 (by decide) (by decide) (by decide) (fun _ => ?_) (fun q => absurd (by decide) q)
  refine r_lload_n hX dX2_withHouse_29 rfl rfl ?_
  refine r_lret hX hE dX2_withHouse_30 (Nat.le_of_ble_eq_true rfl) (Nat.le_of_ble_eq_true rfl) ⟨zl ?_, rfl⟩
  rfl
set_option maxHeartbeats 4000000 in
set_option maxRecDepth 20000 in
theorem z_X2_digest (ad : Nat → Nat) (cs : ClassId × ClassId × ClassId) (S : mS) (T : mT2) (rest : va_W) (hS : sWF S)  : mCt (mTy cs) yX2_digest cX2_digest 3 (some .long) ⟨9, 12, 72, 150⟩ [.ref (ad 0)] (mWd ad cs (mKof S T) rest) (fun v ws' => v = some (.long (lZ (zDig S))) ∧ ∃ T' : mT2, ws' = mWd ad cs (mKof S T') rest) mNo := by
  refine mCt.of (by decide +kernel) (Nat.le_of_ble_eq_true rfl) (fun X hX hE => ?_)
  replace hX : mOK X RX2 cX2_digest 3 ⟨9, 12, 72, 150⟩ [] (mTy cs) := hX
  refine r_ldc2Z (z := 6199) hX kc_X2_221 (by decide) dX2_digest_0 ?_
  refine r_lstore_n hX dX2_digest_3 rfl (by decide) rfl ?_
  refine r_aload_n hX dX2_digest_4 rfl rfl ?_
  refine r_lload_n hX dX2_digest_5 rfl rfl ?_
  refine r_callV hX (z_X2_withOffsets ad cs S T rest hS _) kv_X2_223 0 rfl rfl rfl rfl (Nat.le_of_ble_eq_true rfl) ⟨(Nat.le_of_ble_eq_true rfl), (Nat.le_of_ble_eq_true rfl)⟩ ⟨(Nat.le_of_ble_eq_true rfl), (Nat.le_of_ble_eq_true rfl)⟩ dX2_digest_6 (fun _ _ z => False.elim z) (fun v9 ws9 h1 => ?_)
  obtain ⟨rfl, hw9⟩ := h1
  subst ws9
  dsimp only [mPush]
  refine r_lstore_n hX dX2_digest_9 rfl (by decide) rfl ?_
  refine r_aload_n hX dX2_digest_10 rfl rfl ?_
  refine r_lload_n hX dX2_digest_11 rfl rfl ?_
  refine r_callV hX (z_X2_withMoments ad cs S T rest hS _) kv_X2_226 0 rfl rfl rfl rfl (Nat.le_of_ble_eq_true rfl) ⟨(Nat.le_of_ble_eq_true rfl), (Nat.le_of_ble_eq_true rfl)⟩ ⟨(Nat.le_of_ble_eq_true rfl), (Nat.le_of_ble_eq_true rfl)⟩ dX2_digest_12 (fun _ _ z => False.elim z) (fun v9 ws9 h2 => ?_)
  obtain ⟨rfl, hw9⟩ := h2
  subst ws9
  dsimp only [mPush]
  refine r_lstore_n hX dX2_digest_15 rfl (by decide) rfl ?_
  refine r_aload_n hX dX2_digest_16 rfl rfl ?_
  refine r_lload_n hX dX2_digest_17 rfl rfl ?_
  refine r_callV hX (z_X2_withDates ad cs S T rest hS _) kv_X2_229 0 rfl rfl rfl rfl (Nat.le_of_ble_eq_true rfl) ⟨(Nat.le_of_ble_eq_true rfl), (Nat.le_of_ble_eq_true rfl)⟩ ⟨(Nat.le_of_ble_eq_true rfl), (Nat.le_of_ble_eq_true rfl)⟩ dX2_digest_18 (fun _ _ z => False.elim z) (fun v9 ws9 h3 => ?_)
  obtain ⟨rfl, hw9⟩ := h3
  subst ws9
  dsimp only [mPush]
  refine r_lstore_n hX dX2_digest_21 rfl (by decide) rfl ?_
  refine r_aload_n hX dX2_digest_22 rfl rfl ?_
  refine r_lload_n hX dX2_digest_23 rfl rfl ?_
  refine r_callV hX (z_X2_withClocks ad cs S T rest hS _) kv_X2_232 0 rfl rfl rfl rfl (Nat.le_of_ble_eq_true rfl) ⟨(Nat.le_of_ble_eq_true rfl), (Nat.le_of_ble_eq_true rfl)⟩ ⟨(Nat.le_of_ble_eq_true rfl), (Nat.le_of_ble_eq_true rfl)⟩ dX2_digest_24 (fun _ _ z => False.elim z) (fun v9 ws9 h4 => ?_)
  obtain ⟨rfl, hw9⟩ := h4
  subst ws9
  dsimp only [mPush]
  refine r_lstore_n hX dX2_digest_27 rfl (by decide) rfl ?_
  refine r_aload_n hX dX2_digest_28 rfl rfl ?_
  refine r_lload_n hX dX2_digest_29 rfl rfl ?_
  refine r_callV hX (z_X2_withDatePairs ad cs S T rest hS _) kv_X2_235 0 rfl rfl rfl rfl (Nat.le_of_ble_eq_true rfl) ⟨(Nat.le_of_ble_eq_true rfl), (Nat.le_of_ble_eq_true rfl)⟩ ⟨(Nat.le_of_ble_eq_true rfl), (Nat.le_of_ble_eq_true rfl)⟩ dX2_digest_30 (fun _ _ z => False.elim z) (fun v9 ws9 h5 => ?_)
  obtain ⟨rfl, hw9⟩ := h5
  subst ws9
  dsimp only [mPush]
  refine r_lstore_n hX dX2_digest_33 rfl (by decide) rfl ?_
  refine r_aload_n hX dX2_digest_34 rfl rfl ?_
  refine r_lload_n hX dX2_digest_35 rfl rfl ?_
  refine r_callV hX (z_X2_withClockPairs ad cs S T rest hS _) kv_X2_238 0 rfl rfl rfl rfl (Nat.le_of_ble_eq_true rfl) ⟨(Nat.le_of_ble_eq_true rfl), (Nat.le_of_ble_eq_true rfl)⟩ ⟨(Nat.le_of_ble_eq_true rfl), (Nat.le_of_ble_eq_true rfl)⟩ dX2_digest_36 (fun _ _ z => False.elim z) (fun v9 ws9 h6 => ?_)
  obtain ⟨rfl, hw9⟩ := h6
  subst ws9
  dsimp only [mPush]
  refine r_lstore_n hX dX2_digest_39 rfl (by decide) rfl ?_
  refine r_aload_n hX dX2_digest_40 rfl rfl ?_
  refine r_lload_n hX dX2_digest_41 rfl rfl ?_
  refine r_callV hX (z_X2_withHouse ad cs S T rest hS _) kv_X2_241 0 rfl rfl rfl rfl (Nat.le_of_ble_eq_true rfl) ⟨(Nat.le_of_ble_eq_true rfl), (Nat.le_of_ble_eq_true rfl)⟩ ⟨(Nat.le_of_ble_eq_true rfl), (Nat.le_of_ble_eq_true rfl)⟩ dX2_digest_42 (fun _ _ z => False.elim z) (fun v9 ws9 h7 => ?_)
  obtain ⟨rfl, hw9⟩ := h7
  subst ws9
  dsimp only [mPush]
  refine r_lstore_n hX dX2_digest_45 rfl (by decide) rfl ?_
  refine r_lload_n hX dX2_digest_46 rfl rfl ?_
  refine r_aload_n hX dX2_digest_47 rfl rfl ?_
  refine r_callV hX (z_X2_isSound ad cs S T rest hS) kv_X2_244 0 rfl rfl rfl rfl (Nat.le_of_ble_eq_true rfl) ⟨(Nat.le_of_ble_eq_true rfl), (Nat.le_of_ble_eq_true rfl)⟩ ⟨(Nat.le_of_ble_eq_true rfl), (Nat.le_of_ble_eq_true rfl)⟩ dX2_digest_48 (fun _ _ z => False.elim z) (fun v9 ws9 h8 => ?_)
  obtain ⟨rfl, T9, hw9⟩ := h8
  subst ws9
  dsimp only [mPush]
  refine r_if_eqB (tgt := 58) hX dX2_digest_51 (by decide) (fun q => absurd q (by decide)) (fun _ => ?_)
  refine r_lconstZ (v := 1) hX dX2_digest_54 rfl ?_
  refine r_goto (tgt := 59) hX dX2_digest_55 (by decide) ?_
  refine r_callS hX (z_X2_added _ _ _ _) ks_X2_247 rfl rfl (Nat.le_of_ble_eq_true rfl) ⟨(Nat.le_of_ble_eq_true rfl), (Nat.le_of_ble_eq_true rfl)⟩ ⟨(Nat.le_of_ble_eq_true rfl), (Nat.le_of_ble_eq_true rfl)⟩ dX2_digest_59 (fun _ _ z => False.elim z) (fun v9 ws9 h10 => ?_)
  obtain ⟨rfl, hw9⟩ := h10
  subst ws9
  dsimp only [mPush]
  exact r_lret hX hE dX2_digest_62 (Nat.le_of_ble_eq_true rfl) (Nat.le_of_ble_eq_true rfl) ⟨zl rfl, _, rfl⟩

