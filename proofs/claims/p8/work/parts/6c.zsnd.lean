/-! The class, exact (rows by a program of this repository). -/
set_option maxHeartbeats 4000000 in
set_option maxRecDepth 20000 in
theorem z_X2_areDatesToldAnewSound (ad : Nat → Nat) (cs : ClassId × ClassId × ClassId) (S : mS) (T : mT2) (rest : va_W) (hS : sWF S)  : mCt (mTy cs) yX2_areDatesToldAnewSound cX2_areDatesToldAnewSound 3 (some .boolean) ⟨3, 0, 0, 66⟩ [.ref (ad 0)] (mWd ad cs (mKof S T) rest) (fun v ws' => v = some (.int (b2i true)) ∧ ∃ T' : mT2, ws' = mWd ad cs (mKof S T') rest) mNo := by
  refine mCt.of (by decide +kernel) (Nat.le_of_ble_eq_true rfl) (fun X hX hE => ?_)
  replace hX : mOK X RX2 cX2_areDatesToldAnewSound 3 ⟨3, 0, 0, 66⟩ [] (mTy cs) := hX
  have hn0 := hS.2.1 0 (by decide)
  have hn1 := hS.2.1 1 (by decide)
  have hn2 := hS.2.1 2 (by decide)
  have hn3 := hS.2.1 3 (by decide)
  have ho0 := hS.1 0 (by decide)
  have ho1 := hS.1 1 (by decide)
  have ho2 := hS.1 2 (by decide)
  have ho3 := hS.1 3 (by decide)
  refine r_iconstZ hX dX2_areDatesToldAnewSound_0 ?_
  refine r_istore_n hX dX2_areDatesToldAnewSound_1 rfl (by decide) rfl ?_
  refine r_iload_n hX dX2_areDatesToldAnewSound_2 rfl rfl ?_
  refine r_aload_n hX dX2_areDatesToldAnewSound_3 rfl rfl ?_
  refine r_get hX kf_X2_20 0 rfl rfl dX2_areDatesToldAnewSound_4 ?_
  refine r_alen (v := iZ 4) hX 3 2 rfl rfl rfl dX2_areDatesToldAnewSound_7 ?_
  refine r_icmp_geZ (tgt := 57) hX dX2_areDatesToldAnewSound_8 (by decide) (by decide) (by decide) (fun q => absurd q (by decide)) (fun _ => ?_)
  refine r_iconstZ hX dX2_areDatesToldAnewSound_11 ?_
  refine r_istore_n hX dX2_areDatesToldAnewSound_12 rfl (by decide) rfl ?_
  refine r_iload_n hX dX2_areDatesToldAnewSound_13 rfl rfl ?_
  refine r_aload_n hX dX2_areDatesToldAnewSound_14 rfl rfl ?_
  refine r_get hX kf_X2_9 0 rfl rfl dX2_areDatesToldAnewSound_15 ?_
  refine r_alen (v := iZ 4) hX 1 0 rfl rfl rfl dX2_areDatesToldAnewSound_18 ?_
  refine r_icmp_geZ (tgt := 51) hX dX2_areDatesToldAnewSound_19 (by decide) (by decide) (by decide) (fun q => absurd q (by decide)) (fun _ => ?_)
  refine r_aload_n hX dX2_areDatesToldAnewSound_22 rfl rfl ?_
  refine r_aload_n hX dX2_areDatesToldAnewSound_23 rfl rfl ?_
  refine r_get hX kf_X2_20 0 rfl rfl dX2_areDatesToldAnewSound_24 ?_
  refine r_iload_n hX dX2_areDatesToldAnewSound_27 rfl rfl ?_
  refine r_callS hX (z_X2_at_ok ad cs _ 3 _ 4 0 rfl (by decide) _ 0 (by omega) (by decide)) ks_X2_84 rfl rfl (Nat.le_of_ble_eq_true rfl) ⟨(Nat.le_of_ble_eq_true rfl), (Nat.le_of_ble_eq_true rfl)⟩ ⟨(Nat.le_of_ble_eq_true rfl), (Nat.le_of_ble_eq_true rfl)⟩ dX2_areDatesToldAnewSound_28 (fun _ _ z => False.elim z) (fun v9 ws9 h1 => ?_)
  obtain ⟨rfl, hw9⟩ := h1
  subst ws9
  dsimp only [mPush]
  refine r_aload_n hX dX2_areDatesToldAnewSound_31 rfl rfl ?_
  refine r_get hX kf_X2_9 0 rfl rfl dX2_areDatesToldAnewSound_32 ?_
  refine r_iload_n hX dX2_areDatesToldAnewSound_35 rfl rfl ?_
  refine r_ialdZ hX 1 0 rfl rfl 0 (by decide) (by decide) (by decide) dX2_areDatesToldAnewSound_36 ?_
  refine r_callV hX (z_X2_isToldAnewSound ad cs S T rest hS 0 (by decide) _ (by omega)) kv_X2_366 0 rfl rfl rfl rfl (Nat.le_of_ble_eq_true rfl) ⟨(Nat.le_of_ble_eq_true rfl), (Nat.le_of_ble_eq_true rfl)⟩ ⟨(Nat.le_of_ble_eq_true rfl), (Nat.le_of_ble_eq_true rfl)⟩ dX2_areDatesToldAnewSound_37 (fun _ _ z => False.elim z) (fun v9 ws9 h2 => ?_)
  obtain ⟨rfl, T3, hw9⟩ := h2
  subst ws9
  dsimp only [mPush]
  refine r_if_neB (tgt := 45) hX dX2_areDatesToldAnewSound_40 (by decide) (fun _ => ?_) (fun q => absurd q (by decide))
  refine r_iincZ (z := 1) (y := 1) hX dX2_areDatesToldAnewSound_45 rfl (by decide) rfl rfl ?_
  refine r_goto (tgt := 13) hX dX2_areDatesToldAnewSound_48 (by decide) ?_
  refine r_iload_n hX dX2_areDatesToldAnewSound_13 rfl rfl ?_
  refine r_aload_n hX dX2_areDatesToldAnewSound_14 rfl rfl ?_
  refine r_get hX kf_X2_9 0 rfl rfl dX2_areDatesToldAnewSound_15 ?_
  refine r_alen (v := iZ 4) hX 1 0 rfl rfl rfl dX2_areDatesToldAnewSound_18 ?_
  refine r_icmp_geZ (tgt := 51) hX dX2_areDatesToldAnewSound_19 (by decide) (by decide) (by decide) (fun q => absurd q (by decide)) (fun _ => ?_)
  refine r_aload_n hX dX2_areDatesToldAnewSound_22 rfl rfl ?_
  refine r_aload_n hX dX2_areDatesToldAnewSound_23 rfl rfl ?_
  refine r_get hX kf_X2_20 0 rfl rfl dX2_areDatesToldAnewSound_24 ?_
  refine r_iload_n hX dX2_areDatesToldAnewSound_27 rfl rfl ?_
  refine r_callS hX (z_X2_at_ok ad cs _ 3 _ 4 0 rfl (by decide) _ 0 (by omega) (by decide)) ks_X2_84 rfl rfl (Nat.le_of_ble_eq_true rfl) ⟨(Nat.le_of_ble_eq_true rfl), (Nat.le_of_ble_eq_true rfl)⟩ ⟨(Nat.le_of_ble_eq_true rfl), (Nat.le_of_ble_eq_true rfl)⟩ dX2_areDatesToldAnewSound_28 (fun _ _ z => False.elim z) (fun v9 ws9 h4 => ?_)
  obtain ⟨rfl, hw9⟩ := h4
  subst ws9
  dsimp only [mPush]
  refine r_aload_n hX dX2_areDatesToldAnewSound_31 rfl rfl ?_
  refine r_get hX kf_X2_9 0 rfl rfl dX2_areDatesToldAnewSound_32 ?_
  refine r_iload_n hX dX2_areDatesToldAnewSound_35 rfl rfl ?_
  refine r_ialdZ hX 1 0 rfl rfl 1 (by decide) (by decide) (by decide) dX2_areDatesToldAnewSound_36 ?_
  refine r_callV hX (z_X2_isToldAnewSound ad cs S T3 rest hS 0 (by decide) _ (by omega)) kv_X2_366 0 rfl rfl rfl rfl (Nat.le_of_ble_eq_true rfl) ⟨(Nat.le_of_ble_eq_true rfl), (Nat.le_of_ble_eq_true rfl)⟩ ⟨(Nat.le_of_ble_eq_true rfl), (Nat.le_of_ble_eq_true rfl)⟩ dX2_areDatesToldAnewSound_37 (fun _ _ z => False.elim z) (fun v9 ws9 h5 => ?_)
  obtain ⟨rfl, T6, hw9⟩ := h5
  subst ws9
  dsimp only [mPush]
  refine r_if_neB (tgt := 45) hX dX2_areDatesToldAnewSound_40 (by decide) (fun _ => ?_) (fun q => absurd q (by decide))
  refine r_iincZ (z := 1) (y := 2) hX dX2_areDatesToldAnewSound_45 rfl (by decide) rfl rfl ?_
  refine r_goto (tgt := 13) hX dX2_areDatesToldAnewSound_48 (by decide) ?_
  refine r_iload_n hX dX2_areDatesToldAnewSound_13 rfl rfl ?_
  refine r_aload_n hX dX2_areDatesToldAnewSound_14 rfl rfl ?_
  refine r_get hX kf_X2_9 0 rfl rfl dX2_areDatesToldAnewSound_15 ?_
  refine r_alen (v := iZ 4) hX 1 0 rfl rfl rfl dX2_areDatesToldAnewSound_18 ?_
  refine r_icmp_geZ (tgt := 51) hX dX2_areDatesToldAnewSound_19 (by decide) (by decide) (by decide) (fun q => absurd q (by decide)) (fun _ => ?_)
  refine r_aload_n hX dX2_areDatesToldAnewSound_22 rfl rfl ?_
  refine r_aload_n hX dX2_areDatesToldAnewSound_23 rfl rfl ?_
  refine r_get hX kf_X2_20 0 rfl rfl dX2_areDatesToldAnewSound_24 ?_
  refine r_iload_n hX dX2_areDatesToldAnewSound_27 rfl rfl ?_
  refine r_callS hX (z_X2_at_ok ad cs _ 3 _ 4 0 rfl (by decide) _ 0 (by omega) (by decide)) ks_X2_84 rfl rfl (Nat.le_of_ble_eq_true rfl) ⟨(Nat.le_of_ble_eq_true rfl), (Nat.le_of_ble_eq_true rfl)⟩ ⟨(Nat.le_of_ble_eq_true rfl), (Nat.le_of_ble_eq_true rfl)⟩ dX2_areDatesToldAnewSound_28 (fun _ _ z => False.elim z) (fun v9 ws9 h7 => ?_)
  obtain ⟨rfl, hw9⟩ := h7
  subst ws9
  dsimp only [mPush]
  refine r_aload_n hX dX2_areDatesToldAnewSound_31 rfl rfl ?_
  refine r_get hX kf_X2_9 0 rfl rfl dX2_areDatesToldAnewSound_32 ?_
  refine r_iload_n hX dX2_areDatesToldAnewSound_35 rfl rfl ?_
  refine r_ialdZ hX 1 0 rfl rfl 2 (by decide) (by decide) (by decide) dX2_areDatesToldAnewSound_36 ?_
  refine r_callV hX (z_X2_isToldAnewSound ad cs S T6 rest hS 0 (by decide) _ (by omega)) kv_X2_366 0 rfl rfl rfl rfl (Nat.le_of_ble_eq_true rfl) ⟨(Nat.le_of_ble_eq_true rfl), (Nat.le_of_ble_eq_true rfl)⟩ ⟨(Nat.le_of_ble_eq_true rfl), (Nat.le_of_ble_eq_true rfl)⟩ dX2_areDatesToldAnewSound_37 (fun _ _ z => False.elim z) (fun v9 ws9 h8 => ?_)
  obtain ⟨rfl, T9, hw9⟩ := h8
  subst ws9
  dsimp only [mPush]
  refine r_if_neB (tgt := 45) hX dX2_areDatesToldAnewSound_40 (by decide) (fun _ => ?_) (fun q => absurd q (by decide))
  refine r_iincZ (z := 1) (y := 3) hX dX2_areDatesToldAnewSound_45 rfl (by decide) rfl rfl ?_
  refine r_goto (tgt := 13) hX dX2_areDatesToldAnewSound_48 (by decide) ?_
  refine r_iload_n hX dX2_areDatesToldAnewSound_13 rfl rfl ?_
  refine r_aload_n hX dX2_areDatesToldAnewSound_14 rfl rfl ?_
  refine r_get hX kf_X2_9 0 rfl rfl dX2_areDatesToldAnewSound_15 ?_
  refine r_alen (v := iZ 4) hX 1 0 rfl rfl rfl dX2_areDatesToldAnewSound_18 ?_
  refine r_icmp_geZ (tgt := 51) hX dX2_areDatesToldAnewSound_19 (by decide) (by decide) (by decide) (fun q => absurd q (by decide)) (fun _ => ?_)
  refine r_aload_n hX dX2_areDatesToldAnewSound_22 rfl rfl ?_
  refine r_aload_n hX dX2_areDatesToldAnewSound_23 rfl rfl ?_
  refine r_get hX kf_X2_20 0 rfl rfl dX2_areDatesToldAnewSound_24 ?_
  refine r_iload_n hX dX2_areDatesToldAnewSound_27 rfl rfl ?_
  refine r_callS hX (z_X2_at_ok ad cs _ 3 _ 4 0 rfl (by decide) _ 0 (by omega) (by decide)) ks_X2_84 rfl rfl (Nat.le_of_ble_eq_true rfl) ⟨(Nat.le_of_ble_eq_true rfl), (Nat.le_of_ble_eq_true rfl)⟩ ⟨(Nat.le_of_ble_eq_true rfl), (Nat.le_of_ble_eq_true rfl)⟩ dX2_areDatesToldAnewSound_28 (fun _ _ z => False.elim z) (fun v9 ws9 h10 => ?_)
  obtain ⟨rfl, hw9⟩ := h10
  subst ws9
  dsimp only [mPush]
  refine r_aload_n hX dX2_areDatesToldAnewSound_31 rfl rfl ?_
  refine r_get hX kf_X2_9 0 rfl rfl dX2_areDatesToldAnewSound_32 ?_
  refine r_iload_n hX dX2_areDatesToldAnewSound_35 rfl rfl ?_
  refine r_ialdZ hX 1 0 rfl rfl 3 (by decide) (by decide) (by decide) dX2_areDatesToldAnewSound_36 ?_
  refine r_callV hX (z_X2_isToldAnewSound ad cs S T9 rest hS 0 (by decide) _ (by omega)) kv_X2_366 0 rfl rfl rfl rfl (Nat.le_of_ble_eq_true rfl) ⟨(Nat.le_of_ble_eq_true rfl), (Nat.le_of_ble_eq_true rfl)⟩ ⟨(Nat.le_of_ble_eq_true rfl), (Nat.le_of_ble_eq_true rfl)⟩ dX2_areDatesToldAnewSound_37 (fun _ _ z => False.elim z) (fun v9 ws9 h11 => ?_)
  obtain ⟨rfl, T12, hw9⟩ := h11
  subst ws9
  dsimp only [mPush]
  refine r_if_neB (tgt := 45) hX dX2_areDatesToldAnewSound_40 (by decide) (fun _ => ?_) (fun q => absurd q (by decide))
  refine r_iincZ (z := 1) (y := 4) hX dX2_areDatesToldAnewSound_45 rfl (by decide) rfl rfl ?_
  refine r_goto (tgt := 13) hX dX2_areDatesToldAnewSound_48 (by decide) ?_
  refine r_iload_n hX dX2_areDatesToldAnewSound_13 rfl rfl ?_
  refine r_aload_n hX dX2_areDatesToldAnewSound_14 rfl rfl ?_
  refine r_get hX kf_X2_9 0 rfl rfl dX2_areDatesToldAnewSound_15 ?_
  refine r_alen (v := iZ 4) hX 1 0 rfl rfl rfl dX2_areDatesToldAnewSound_18 ?_
  refine r_icmp_geZ (tgt := 51) hX dX2_areDatesToldAnewSound_19 (by decide) (by decide) (by decide) (fun _ => ?_) (fun q => absurd (by decide) q)
  refine r_iincZ (z := 1) (y := 1) hX dX2_areDatesToldAnewSound_51 rfl (by decide) rfl rfl ?_
  refine r_goto (tgt := 2) hX dX2_areDatesToldAnewSound_54 (by decide) ?_
  refine r_iload_n hX dX2_areDatesToldAnewSound_2 rfl rfl ?_
  refine r_aload_n hX dX2_areDatesToldAnewSound_3 rfl rfl ?_
  refine r_get hX kf_X2_20 0 rfl rfl dX2_areDatesToldAnewSound_4 ?_
  refine r_alen (v := iZ 4) hX 3 2 rfl rfl rfl dX2_areDatesToldAnewSound_7 ?_
  refine r_icmp_geZ (tgt := 57) hX dX2_areDatesToldAnewSound_8 (by decide) (by decide) (by decide) (fun q => absurd q (by decide)) (fun _ => ?_)
  refine r_iconstZ hX dX2_areDatesToldAnewSound_11 ?_
  refine r_istore_n hX dX2_areDatesToldAnewSound_12 rfl (by decide) rfl ?_
  refine r_iload_n hX dX2_areDatesToldAnewSound_13 rfl rfl ?_
  refine r_aload_n hX dX2_areDatesToldAnewSound_14 rfl rfl ?_
  refine r_get hX kf_X2_9 0 rfl rfl dX2_areDatesToldAnewSound_15 ?_
  refine r_alen (v := iZ 4) hX 1 0 rfl rfl rfl dX2_areDatesToldAnewSound_18 ?_
  refine r_icmp_geZ (tgt := 51) hX dX2_areDatesToldAnewSound_19 (by decide) (by decide) (by decide) (fun q => absurd q (by decide)) (fun _ => ?_)
  refine r_aload_n hX dX2_areDatesToldAnewSound_22 rfl rfl ?_
  refine r_aload_n hX dX2_areDatesToldAnewSound_23 rfl rfl ?_
  refine r_get hX kf_X2_20 0 rfl rfl dX2_areDatesToldAnewSound_24 ?_
  refine r_iload_n hX dX2_areDatesToldAnewSound_27 rfl rfl ?_
  refine r_callS hX (z_X2_at_ok ad cs _ 3 _ 4 0 rfl (by decide) _ 1 (by omega) (by decide)) ks_X2_84 rfl rfl (Nat.le_of_ble_eq_true rfl) ⟨(Nat.le_of_ble_eq_true rfl), (Nat.le_of_ble_eq_true rfl)⟩ ⟨(Nat.le_of_ble_eq_true rfl), (Nat.le_of_ble_eq_true rfl)⟩ dX2_areDatesToldAnewSound_28 (fun _ _ z => False.elim z) (fun v9 ws9 h13 => ?_)
  obtain ⟨rfl, hw9⟩ := h13
  subst ws9
  dsimp only [mPush]
  refine r_aload_n hX dX2_areDatesToldAnewSound_31 rfl rfl ?_
  refine r_get hX kf_X2_9 0 rfl rfl dX2_areDatesToldAnewSound_32 ?_
  refine r_iload_n hX dX2_areDatesToldAnewSound_35 rfl rfl ?_
  refine r_ialdZ hX 1 0 rfl rfl 0 (by decide) (by decide) (by decide) dX2_areDatesToldAnewSound_36 ?_
  refine r_callV hX (z_X2_isToldAnewSound ad cs S T12 rest hS 1 (by decide) _ (by omega)) kv_X2_366 0 rfl rfl rfl rfl (Nat.le_of_ble_eq_true rfl) ⟨(Nat.le_of_ble_eq_true rfl), (Nat.le_of_ble_eq_true rfl)⟩ ⟨(Nat.le_of_ble_eq_true rfl), (Nat.le_of_ble_eq_true rfl)⟩ dX2_areDatesToldAnewSound_37 (fun _ _ z => False.elim z) (fun v9 ws9 h14 => ?_)
  obtain ⟨rfl, T15, hw9⟩ := h14
  subst ws9
  dsimp only [mPush]
  refine r_if_neB (tgt := 45) hX dX2_areDatesToldAnewSound_40 (by decide) (fun _ => ?_) (fun q => absurd q (by decide))
  refine r_iincZ (z := 1) (y := 1) hX dX2_areDatesToldAnewSound_45 rfl (by decide) rfl rfl ?_
  refine r_goto (tgt := 13) hX dX2_areDatesToldAnewSound_48 (by decide) ?_
  refine r_iload_n hX dX2_areDatesToldAnewSound_13 rfl rfl ?_
  refine r_aload_n hX dX2_areDatesToldAnewSound_14 rfl rfl ?_
  refine r_get hX kf_X2_9 0 rfl rfl dX2_areDatesToldAnewSound_15 ?_
  refine r_alen (v := iZ 4) hX 1 0 rfl rfl rfl dX2_areDatesToldAnewSound_18 ?_
  refine r_icmp_geZ (tgt := 51) hX dX2_areDatesToldAnewSound_19 (by decide) (by decide) (by decide) (fun q => absurd q (by decide)) (fun _ => ?_)
  refine r_aload_n hX dX2_areDatesToldAnewSound_22 rfl rfl ?_
  refine r_aload_n hX dX2_areDatesToldAnewSound_23 rfl rfl ?_
  refine r_get hX kf_X2_20 0 rfl rfl dX2_areDatesToldAnewSound_24 ?_
  refine r_iload_n hX dX2_areDatesToldAnewSound_27 rfl rfl ?_
  refine r_callS hX (z_X2_at_ok ad cs _ 3 _ 4 0 rfl (by decide) _ 1 (by omega) (by decide)) ks_X2_84 rfl rfl (Nat.le_of_ble_eq_true rfl) ⟨(Nat.le_of_ble_eq_true rfl), (Nat.le_of_ble_eq_true rfl)⟩ ⟨(Nat.le_of_ble_eq_true rfl), (Nat.le_of_ble_eq_true rfl)⟩ dX2_areDatesToldAnewSound_28 (fun _ _ z => False.elim z) (fun v9 ws9 h16 => ?_)
  obtain ⟨rfl, hw9⟩ := h16
  subst ws9
  dsimp only [mPush]
  refine r_aload_n hX dX2_areDatesToldAnewSound_31 rfl rfl ?_
  refine r_get hX kf_X2_9 0 rfl rfl dX2_areDatesToldAnewSound_32 ?_
  refine r_iload_n hX dX2_areDatesToldAnewSound_35 rfl rfl ?_
  refine r_ialdZ hX 1 0 rfl rfl 1 (by decide) (by decide) (by decide) dX2_areDatesToldAnewSound_36 ?_
  refine r_callV hX (z_X2_isToldAnewSound ad cs S T15 rest hS 1 (by decide) _ (by omega)) kv_X2_366 0 rfl rfl rfl rfl (Nat.le_of_ble_eq_true rfl) ⟨(Nat.le_of_ble_eq_true rfl), (Nat.le_of_ble_eq_true rfl)⟩ ⟨(Nat.le_of_ble_eq_true rfl), (Nat.le_of_ble_eq_true rfl)⟩ dX2_areDatesToldAnewSound_37 (fun _ _ z => False.elim z) (fun v9 ws9 h17 => ?_)
  obtain ⟨rfl, T18, hw9⟩ := h17
  subst ws9
  dsimp only [mPush]
  refine r_if_neB (tgt := 45) hX dX2_areDatesToldAnewSound_40 (by decide) (fun _ => ?_) (fun q => absurd q (by decide))
  refine r_iincZ (z := 1) (y := 2) hX dX2_areDatesToldAnewSound_45 rfl (by decide) rfl rfl ?_
  refine r_goto (tgt := 13) hX dX2_areDatesToldAnewSound_48 (by decide) ?_
  refine r_iload_n hX dX2_areDatesToldAnewSound_13 rfl rfl ?_
  refine r_aload_n hX dX2_areDatesToldAnewSound_14 rfl rfl ?_
  refine r_get hX kf_X2_9 0 rfl rfl dX2_areDatesToldAnewSound_15 ?_
  refine r_alen (v := iZ 4) hX 1 0 rfl rfl rfl dX2_areDatesToldAnewSound_18 ?_
  refine r_icmp_geZ (tgt := 51) hX dX2_areDatesToldAnewSound_19 (by decide) (by decide) (by decide) (fun q => absurd q (by decide)) (fun _ => ?_)
  refine r_aload_n hX dX2_areDatesToldAnewSound_22 rfl rfl ?_
  refine r_aload_n hX dX2_areDatesToldAnewSound_23 rfl rfl ?_
  refine r_get hX kf_X2_20 0 rfl rfl dX2_areDatesToldAnewSound_24 ?_
  refine r_iload_n hX dX2_areDatesToldAnewSound_27 rfl rfl ?_
  refine r_callS hX (z_X2_at_ok ad cs _ 3 _ 4 0 rfl (by decide) _ 1 (by omega) (by decide)) ks_X2_84 rfl rfl (Nat.le_of_ble_eq_true rfl) ⟨(Nat.le_of_ble_eq_true rfl), (Nat.le_of_ble_eq_true rfl)⟩ ⟨(Nat.le_of_ble_eq_true rfl), (Nat.le_of_ble_eq_true rfl)⟩ dX2_areDatesToldAnewSound_28 (fun _ _ z => False.elim z) (fun v9 ws9 h19 => ?_)
  obtain ⟨rfl, hw9⟩ := h19
  subst ws9
  dsimp only [mPush]
  refine r_aload_n hX dX2_areDatesToldAnewSound_31 rfl rfl ?_
  refine r_get hX kf_X2_9 0 rfl rfl dX2_areDatesToldAnewSound_32 ?_
  refine r_iload_n hX dX2_areDatesToldAnewSound_35 rfl rfl ?_
  refine r_ialdZ hX 1 0 rfl rfl 2 (by decide) (by decide) (by decide) dX2_areDatesToldAnewSound_36 ?_
  refine r_callV hX (z_X2_isToldAnewSound ad cs S T18 rest hS 1 (by decide) _ (by omega)) kv_X2_366 0 rfl rfl rfl rfl (Nat.le_of_ble_eq_true rfl) ⟨(Nat.le_of_ble_eq_true rfl), (Nat.le_of_ble_eq_true rfl)⟩ ⟨(Nat.le_of_ble_eq_true rfl), (Nat.le_of_ble_eq_true rfl)⟩ dX2_areDatesToldAnewSound_37 (fun _ _ z => False.elim z) (fun v9 ws9 h20 => ?_)
  obtain ⟨rfl, T21, hw9⟩ := h20
  subst ws9
  dsimp only [mPush]
  refine r_if_neB (tgt := 45) hX dX2_areDatesToldAnewSound_40 (by decide) (fun _ => ?_) (fun q => absurd q (by decide))
  refine r_iincZ (z := 1) (y := 3) hX dX2_areDatesToldAnewSound_45 rfl (by decide) rfl rfl ?_
  refine r_goto (tgt := 13) hX dX2_areDatesToldAnewSound_48 (by decide) ?_
  refine r_iload_n hX dX2_areDatesToldAnewSound_13 rfl rfl ?_
  refine r_aload_n hX dX2_areDatesToldAnewSound_14 rfl rfl ?_
  refine r_get hX kf_X2_9 0 rfl rfl dX2_areDatesToldAnewSound_15 ?_
  refine r_alen (v := iZ 4) hX 1 0 rfl rfl rfl dX2_areDatesToldAnewSound_18 ?_
  refine r_icmp_geZ (tgt := 51) hX dX2_areDatesToldAnewSound_19 (by decide) (by decide) (by decide) (fun q => absurd q (by decide)) (fun _ => ?_)
  refine r_aload_n hX dX2_areDatesToldAnewSound_22 rfl rfl ?_
  refine r_aload_n hX dX2_areDatesToldAnewSound_23 rfl rfl ?_
  refine r_get hX kf_X2_20 0 rfl rfl dX2_areDatesToldAnewSound_24 ?_
  refine r_iload_n hX dX2_areDatesToldAnewSound_27 rfl rfl ?_
  refine r_callS hX (z_X2_at_ok ad cs _ 3 _ 4 0 rfl (by decide) _ 1 (by omega) (by decide)) ks_X2_84 rfl rfl (Nat.le_of_ble_eq_true rfl) ⟨(Nat.le_of_ble_eq_true rfl), (Nat.le_of_ble_eq_true rfl)⟩ ⟨(Nat.le_of_ble_eq_true rfl), (Nat.le_of_ble_eq_true rfl)⟩ dX2_areDatesToldAnewSound_28 (fun _ _ z => False.elim z) (fun v9 ws9 h22 => ?_)
  obtain ⟨rfl, hw9⟩ := h22
  subst ws9
  dsimp only [mPush]
  refine r_aload_n hX dX2_areDatesToldAnewSound_31 rfl rfl ?_
  refine r_get hX kf_X2_9 0 rfl rfl dX2_areDatesToldAnewSound_32 ?_
  refine r_iload_n hX dX2_areDatesToldAnewSound_35 rfl rfl ?_
  refine r_ialdZ hX 1 0 rfl rfl 3 (by decide) (by decide) (by decide) dX2_areDatesToldAnewSound_36 ?_
  refine r_callV hX (z_X2_isToldAnewSound ad cs S T21 rest hS 1 (by decide) _ (by omega)) kv_X2_366 0 rfl rfl rfl rfl (Nat.le_of_ble_eq_true rfl) ⟨(Nat.le_of_ble_eq_true rfl), (Nat.le_of_ble_eq_true rfl)⟩ ⟨(Nat.le_of_ble_eq_true rfl), (Nat.le_of_ble_eq_true rfl)⟩ dX2_areDatesToldAnewSound_37 (fun _ _ z => False.elim z) (fun v9 ws9 h23 => ?_)
  obtain ⟨rfl, T24, hw9⟩ := h23
  subst ws9
  dsimp only [mPush]
  refine r_if_neB (tgt := 45) hX dX2_areDatesToldAnewSound_40 (by decide) (fun _ => ?_) (fun q => absurd q (by decide))
  refine r_iincZ (z := 1) (y := 4) hX dX2_areDatesToldAnewSound_45 rfl (by decide) rfl rfl ?_
  refine r_goto (tgt := 13) hX dX2_areDatesToldAnewSound_48 (by decide) ?_
  refine r_iload_n hX dX2_areDatesToldAnewSound_13 rfl rfl ?_
  refine r_aload_n hX dX2_areDatesToldAnewSound_14 rfl rfl ?_
  refine r_get hX kf_X2_9 0 rfl rfl dX2_areDatesToldAnewSound_15 ?_
  refine r_alen (v := iZ 4) hX 1 0 rfl rfl rfl dX2_areDatesToldAnewSound_18 ?_
  refine r_icmp_geZ (tgt := 51) hX dX2_areDatesToldAnewSound_19 (by decide) (by decide) (by decide) (fun _ => ?_) (fun q => absurd (by decide) q)
  refine r_iincZ (z := 1) (y := 2) hX dX2_areDatesToldAnewSound_51 rfl (by decide) rfl rfl ?_
  refine r_goto (tgt := 2) hX dX2_areDatesToldAnewSound_54 (by decide) ?_
  refine r_iload_n hX dX2_areDatesToldAnewSound_2 rfl rfl ?_
  refine r_aload_n hX dX2_areDatesToldAnewSound_3 rfl rfl ?_
  refine r_get hX kf_X2_20 0 rfl rfl dX2_areDatesToldAnewSound_4 ?_
  refine r_alen (v := iZ 4) hX 3 2 rfl rfl rfl dX2_areDatesToldAnewSound_7 ?_
  refine r_icmp_geZ (tgt := 57) hX dX2_areDatesToldAnewSound_8 (by decide) (by decide) (by decide) (fun q => absurd q (by decide)) (fun _ => ?_)
  refine r_iconstZ hX dX2_areDatesToldAnewSound_11 ?_
  refine r_istore_n hX dX2_areDatesToldAnewSound_12 rfl (by decide) rfl ?_
  refine r_iload_n hX dX2_areDatesToldAnewSound_13 rfl rfl ?_
  refine r_aload_n hX dX2_areDatesToldAnewSound_14 rfl rfl ?_
  refine r_get hX kf_X2_9 0 rfl rfl dX2_areDatesToldAnewSound_15 ?_
  refine r_alen (v := iZ 4) hX 1 0 rfl rfl rfl dX2_areDatesToldAnewSound_18 ?_
  refine r_icmp_geZ (tgt := 51) hX dX2_areDatesToldAnewSound_19 (by decide) (by decide) (by decide) (fun q => absurd q (by decide)) (fun _ => ?_)
  refine r_aload_n hX dX2_areDatesToldAnewSound_22 rfl rfl ?_
  refine r_aload_n hX dX2_areDatesToldAnewSound_23 rfl rfl ?_
  refine r_get hX kf_X2_20 0 rfl rfl dX2_areDatesToldAnewSound_24 ?_
  refine r_iload_n hX dX2_areDatesToldAnewSound_27 rfl rfl ?_
  refine r_callS hX (z_X2_at_ok ad cs _ 3 _ 4 0 rfl (by decide) _ 2 (by omega) (by decide)) ks_X2_84 rfl rfl (Nat.le_of_ble_eq_true rfl) ⟨(Nat.le_of_ble_eq_true rfl), (Nat.le_of_ble_eq_true rfl)⟩ ⟨(Nat.le_of_ble_eq_true rfl), (Nat.le_of_ble_eq_true rfl)⟩ dX2_areDatesToldAnewSound_28 (fun _ _ z => False.elim z) (fun v9 ws9 h25 => ?_)
  obtain ⟨rfl, hw9⟩ := h25
  subst ws9
  dsimp only [mPush]
  refine r_aload_n hX dX2_areDatesToldAnewSound_31 rfl rfl ?_
  refine r_get hX kf_X2_9 0 rfl rfl dX2_areDatesToldAnewSound_32 ?_
  refine r_iload_n hX dX2_areDatesToldAnewSound_35 rfl rfl ?_
  refine r_ialdZ hX 1 0 rfl rfl 0 (by decide) (by decide) (by decide) dX2_areDatesToldAnewSound_36 ?_
  refine r_callV hX (z_X2_isToldAnewSound ad cs S T24 rest hS 2 (by decide) _ (by omega)) kv_X2_366 0 rfl rfl rfl rfl (Nat.le_of_ble_eq_true rfl) ⟨(Nat.le_of_ble_eq_true rfl), (Nat.le_of_ble_eq_true rfl)⟩ ⟨(Nat.le_of_ble_eq_true rfl), (Nat.le_of_ble_eq_true rfl)⟩ dX2_areDatesToldAnewSound_37 (fun _ _ z => False.elim z) (fun v9 ws9 h26 => ?_)
  obtain ⟨rfl, T27, hw9⟩ := h26
  subst ws9
  dsimp only [mPush]
  refine r_if_neB (tgt := 45) hX dX2_areDatesToldAnewSound_40 (by decide) (fun _ => ?_) (fun q => absurd q (by decide))
  refine r_iincZ (z := 1) (y := 1) hX dX2_areDatesToldAnewSound_45 rfl (by decide) rfl rfl ?_
  refine r_goto (tgt := 13) hX dX2_areDatesToldAnewSound_48 (by decide) ?_
  refine r_iload_n hX dX2_areDatesToldAnewSound_13 rfl rfl ?_
  refine r_aload_n hX dX2_areDatesToldAnewSound_14 rfl rfl ?_
  refine r_get hX kf_X2_9 0 rfl rfl dX2_areDatesToldAnewSound_15 ?_
  refine r_alen (v := iZ 4) hX 1 0 rfl rfl rfl dX2_areDatesToldAnewSound_18 ?_
  refine r_icmp_geZ (tgt := 51) hX dX2_areDatesToldAnewSound_19 (by decide) (by decide) (by decide) (fun q => absurd q (by decide)) (fun _ => ?_)
  refine r_aload_n hX dX2_areDatesToldAnewSound_22 rfl rfl ?_
  refine r_aload_n hX dX2_areDatesToldAnewSound_23 rfl rfl ?_
  refine r_get hX kf_X2_20 0 rfl rfl dX2_areDatesToldAnewSound_24 ?_
  refine r_iload_n hX dX2_areDatesToldAnewSound_27 rfl rfl ?_
  refine r_callS hX (z_X2_at_ok ad cs _ 3 _ 4 0 rfl (by decide) _ 2 (by omega) (by decide)) ks_X2_84 rfl rfl (Nat.le_of_ble_eq_true rfl) ⟨(Nat.le_of_ble_eq_true rfl), (Nat.le_of_ble_eq_true rfl)⟩ ⟨(Nat.le_of_ble_eq_true rfl), (Nat.le_of_ble_eq_true rfl)⟩ dX2_areDatesToldAnewSound_28 (fun _ _ z => False.elim z) (fun v9 ws9 h28 => ?_)
  obtain ⟨rfl, hw9⟩ := h28
  subst ws9
  dsimp only [mPush]
  refine r_aload_n hX dX2_areDatesToldAnewSound_31 rfl rfl ?_
  refine r_get hX kf_X2_9 0 rfl rfl dX2_areDatesToldAnewSound_32 ?_
  refine r_iload_n hX dX2_areDatesToldAnewSound_35 rfl rfl ?_
  refine r_ialdZ hX 1 0 rfl rfl 1 (by decide) (by decide) (by decide) dX2_areDatesToldAnewSound_36 ?_
  refine r_callV hX (z_X2_isToldAnewSound ad cs S T27 rest hS 2 (by decide) _ (by omega)) kv_X2_366 0 rfl rfl rfl rfl (Nat.le_of_ble_eq_true rfl) ⟨(Nat.le_of_ble_eq_true rfl), (Nat.le_of_ble_eq_true rfl)⟩ ⟨(Nat.le_of_ble_eq_true rfl), (Nat.le_of_ble_eq_true rfl)⟩ dX2_areDatesToldAnewSound_37 (fun _ _ z => False.elim z) (fun v9 ws9 h29 => ?_)
  obtain ⟨rfl, T30, hw9⟩ := h29
  subst ws9
  dsimp only [mPush]
  refine r_if_neB (tgt := 45) hX dX2_areDatesToldAnewSound_40 (by decide) (fun _ => ?_) (fun q => absurd q (by decide))
  refine r_iincZ (z := 1) (y := 2) hX dX2_areDatesToldAnewSound_45 rfl (by decide) rfl rfl ?_
  refine r_goto (tgt := 13) hX dX2_areDatesToldAnewSound_48 (by decide) ?_
  refine r_iload_n hX dX2_areDatesToldAnewSound_13 rfl rfl ?_
  refine r_aload_n hX dX2_areDatesToldAnewSound_14 rfl rfl ?_
  refine r_get hX kf_X2_9 0 rfl rfl dX2_areDatesToldAnewSound_15 ?_
  refine r_alen (v := iZ 4) hX 1 0 rfl rfl rfl dX2_areDatesToldAnewSound_18 ?_
  refine r_icmp_geZ (tgt := 51) hX dX2_areDatesToldAnewSound_19 (by decide) (by decide) (by decide) (fun q => absurd q (by decide)) (fun _ => ?_)
  refine r_aload_n hX dX2_areDatesToldAnewSound_22 rfl rfl ?_
  refine r_aload_n hX dX2_areDatesToldAnewSound_23 rfl rfl ?_
  refine r_get hX kf_X2_20 0 rfl rfl dX2_areDatesToldAnewSound_24 ?_
  refine r_iload_n hX dX2_areDatesToldAnewSound_27 rfl rfl ?_
  refine r_callS hX (z_X2_at_ok ad cs _ 3 _ 4 0 rfl (by decide) _ 2 (by omega) (by decide)) ks_X2_84 rfl rfl (Nat.le_of_ble_eq_true rfl) ⟨(Nat.le_of_ble_eq_true rfl), (Nat.le_of_ble_eq_true rfl)⟩ ⟨(Nat.le_of_ble_eq_true rfl), (Nat.le_of_ble_eq_true rfl)⟩ dX2_areDatesToldAnewSound_28 (fun _ _ z => False.elim z) (fun v9 ws9 h31 => ?_)
  obtain ⟨rfl, hw9⟩ := h31
  subst ws9
  dsimp only [mPush]
  refine r_aload_n hX dX2_areDatesToldAnewSound_31 rfl rfl ?_
  refine r_get hX kf_X2_9 0 rfl rfl dX2_areDatesToldAnewSound_32 ?_
  refine r_iload_n hX dX2_areDatesToldAnewSound_35 rfl rfl ?_
  refine r_ialdZ hX 1 0 rfl rfl 2 (by decide) (by decide) (by decide) dX2_areDatesToldAnewSound_36 ?_
  refine r_callV hX (z_X2_isToldAnewSound ad cs S T30 rest hS 2 (by decide) _ (by omega)) kv_X2_366 0 rfl rfl rfl rfl (Nat.le_of_ble_eq_true rfl) ⟨(Nat.le_of_ble_eq_true rfl), (Nat.le_of_ble_eq_true rfl)⟩ ⟨(Nat.le_of_ble_eq_true rfl), (Nat.le_of_ble_eq_true rfl)⟩ dX2_areDatesToldAnewSound_37 (fun _ _ z => False.elim z) (fun v9 ws9 h32 => ?_)
  obtain ⟨rfl, T33, hw9⟩ := h32
  subst ws9
  dsimp only [mPush]
  refine r_if_neB (tgt := 45) hX dX2_areDatesToldAnewSound_40 (by decide) (fun _ => ?_) (fun q => absurd q (by decide))
  refine r_iincZ (z := 1) (y := 3) hX dX2_areDatesToldAnewSound_45 rfl (by decide) rfl rfl ?_
  refine r_goto (tgt := 13) hX dX2_areDatesToldAnewSound_48 (by decide) ?_
  refine r_iload_n hX dX2_areDatesToldAnewSound_13 rfl rfl ?_
  refine r_aload_n hX dX2_areDatesToldAnewSound_14 rfl rfl ?_
  refine r_get hX kf_X2_9 0 rfl rfl dX2_areDatesToldAnewSound_15 ?_
  refine r_alen (v := iZ 4) hX 1 0 rfl rfl rfl dX2_areDatesToldAnewSound_18 ?_
  refine r_icmp_geZ (tgt := 51) hX dX2_areDatesToldAnewSound_19 (by decide) (by decide) (by decide) (fun q => absurd q (by decide)) (fun _ => ?_)
  refine r_aload_n hX dX2_areDatesToldAnewSound_22 rfl rfl ?_
  refine r_aload_n hX dX2_areDatesToldAnewSound_23 rfl rfl ?_
  refine r_get hX kf_X2_20 0 rfl rfl dX2_areDatesToldAnewSound_24 ?_
  refine r_iload_n hX dX2_areDatesToldAnewSound_27 rfl rfl ?_
  refine r_callS hX (z_X2_at_ok ad cs _ 3 _ 4 0 rfl (by decide) _ 2 (by omega) (by decide)) ks_X2_84 rfl rfl (Nat.le_of_ble_eq_true rfl) ⟨(Nat.le_of_ble_eq_true rfl), (Nat.le_of_ble_eq_true rfl)⟩ ⟨(Nat.le_of_ble_eq_true rfl), (Nat.le_of_ble_eq_true rfl)⟩ dX2_areDatesToldAnewSound_28 (fun _ _ z => False.elim z) (fun v9 ws9 h34 => ?_)
  obtain ⟨rfl, hw9⟩ := h34
  subst ws9
  dsimp only [mPush]
  refine r_aload_n hX dX2_areDatesToldAnewSound_31 rfl rfl ?_
  refine r_get hX kf_X2_9 0 rfl rfl dX2_areDatesToldAnewSound_32 ?_
  refine r_iload_n hX dX2_areDatesToldAnewSound_35 rfl rfl ?_
  refine r_ialdZ hX 1 0 rfl rfl 3 (by decide) (by decide) (by decide) dX2_areDatesToldAnewSound_36 ?_
  refine r_callV hX (z_X2_isToldAnewSound ad cs S T33 rest hS 2 (by decide) _ (by omega)) kv_X2_366 0 rfl rfl rfl rfl (Nat.le_of_ble_eq_true rfl) ⟨(Nat.le_of_ble_eq_true rfl), (Nat.le_of_ble_eq_true rfl)⟩ ⟨(Nat.le_of_ble_eq_true rfl), (Nat.le_of_ble_eq_true rfl)⟩ dX2_areDatesToldAnewSound_37 (fun _ _ z => False.elim z) (fun v9 ws9 h35 => ?_)
  obtain ⟨rfl, T36, hw9⟩ := h35
  subst ws9
  dsimp only [mPush]
  refine r_if_neB (tgt := 45) hX dX2_areDatesToldAnewSound_40 (by decide) (fun _ => ?_) (fun q => absurd q (by decide))
  refine r_iincZ (z := 1) (y := 4) hX dX2_areDatesToldAnewSound_45 rfl (by decide) rfl rfl ?_
  refine r_goto (tgt := 13) hX dX2_areDatesToldAnewSound_48 (by decide) ?_
  refine r_iload_n hX dX2_areDatesToldAnewSound_13 rfl rfl ?_
  refine r_aload_n hX dX2_areDatesToldAnewSound_14 rfl rfl ?_
  refine r_get hX kf_X2_9 0 rfl rfl dX2_areDatesToldAnewSound_15 ?_
  refine r_alen (v := iZ 4) hX 1 0 rfl rfl rfl dX2_areDatesToldAnewSound_18 ?_
  refine r_icmp_geZ (tgt := 51) hX dX2_areDatesToldAnewSound_19 (by decide) (by decide) (by decide) (fun _ => ?_) (fun q => absurd (by decide) q)
  refine r_iincZ (z := 1) (y := 3) hX dX2_areDatesToldAnewSound_51 rfl (by decide) rfl rfl ?_
  refine r_goto (tgt := 2) hX dX2_areDatesToldAnewSound_54 (by decide) ?_
  refine r_iload_n hX dX2_areDatesToldAnewSound_2 rfl rfl ?_
  refine r_aload_n hX dX2_areDatesToldAnewSound_3 rfl rfl ?_
  refine r_get hX kf_X2_20 0 rfl rfl dX2_areDatesToldAnewSound_4 ?_
  refine r_alen (v := iZ 4) hX 3 2 rfl rfl rfl dX2_areDatesToldAnewSound_7 ?_
  refine r_icmp_geZ (tgt := 57) hX dX2_areDatesToldAnewSound_8 (by decide) (by decide) (by decide) (fun q => absurd q (by decide)) (fun _ => ?_)
  refine r_iconstZ hX dX2_areDatesToldAnewSound_11 ?_
  refine r_istore_n hX dX2_areDatesToldAnewSound_12 rfl (by decide) rfl ?_
  refine r_iload_n hX dX2_areDatesToldAnewSound_13 rfl rfl ?_
  refine r_aload_n hX dX2_areDatesToldAnewSound_14 rfl rfl ?_
  refine r_get hX kf_X2_9 0 rfl rfl dX2_areDatesToldAnewSound_15 ?_
  refine r_alen (v := iZ 4) hX 1 0 rfl rfl rfl dX2_areDatesToldAnewSound_18 ?_
  refine r_icmp_geZ (tgt := 51) hX dX2_areDatesToldAnewSound_19 (by decide) (by decide) (by decide) (fun q => absurd q (by decide)) (fun _ => ?_)
  refine r_aload_n hX dX2_areDatesToldAnewSound_22 rfl rfl ?_
  refine r_aload_n hX dX2_areDatesToldAnewSound_23 rfl rfl ?_
  refine r_get hX kf_X2_20 0 rfl rfl dX2_areDatesToldAnewSound_24 ?_
  refine r_iload_n hX dX2_areDatesToldAnewSound_27 rfl rfl ?_
  refine r_callS hX (z_X2_at_ok ad cs _ 3 _ 4 0 rfl (by decide) _ 3 (by omega) (by decide)) ks_X2_84 rfl rfl (Nat.le_of_ble_eq_true rfl) ⟨(Nat.le_of_ble_eq_true rfl), (Nat.le_of_ble_eq_true rfl)⟩ ⟨(Nat.le_of_ble_eq_true rfl), (Nat.le_of_ble_eq_true rfl)⟩ dX2_areDatesToldAnewSound_28 (fun _ _ z => False.elim z) (fun v9 ws9 h37 => ?_)
  obtain ⟨rfl, hw9⟩ := h37
  subst ws9
  dsimp only [mPush]
  refine r_aload_n hX dX2_areDatesToldAnewSound_31 rfl rfl ?_
  refine r_get hX kf_X2_9 0 rfl rfl dX2_areDatesToldAnewSound_32 ?_
  refine r_iload_n hX dX2_areDatesToldAnewSound_35 rfl rfl ?_
  refine r_ialdZ hX 1 0 rfl rfl 0 (by decide) (by decide) (by decide) dX2_areDatesToldAnewSound_36 ?_
  refine r_callV hX (z_X2_isToldAnewSound ad cs S T36 rest hS 3 (by decide) _ (by omega)) kv_X2_366 0 rfl rfl rfl rfl (Nat.le_of_ble_eq_true rfl) ⟨(Nat.le_of_ble_eq_true rfl), (Nat.le_of_ble_eq_true rfl)⟩ ⟨(Nat.le_of_ble_eq_true rfl), (Nat.le_of_ble_eq_true rfl)⟩ dX2_areDatesToldAnewSound_37 (fun _ _ z => False.elim z) (fun v9 ws9 h38 => ?_)
  obtain ⟨rfl, T39, hw9⟩ := h38
  subst ws9
  dsimp only [mPush]
  refine r_if_neB (tgt := 45) hX dX2_areDatesToldAnewSound_40 (by decide) (fun _ => ?_) (fun q => absurd q (by decide))
  refine r_iincZ (z := 1) (y := 1) hX dX2_areDatesToldAnewSound_45 rfl (by decide) rfl rfl ?_
  refine r_goto (tgt := 13) hX dX2_areDatesToldAnewSound_48 (by decide) ?_
  refine r_iload_n hX dX2_areDatesToldAnewSound_13 rfl rfl ?_
  refine r_aload_n hX dX2_areDatesToldAnewSound_14 rfl rfl ?_
  refine r_get hX kf_X2_9 0 rfl rfl dX2_areDatesToldAnewSound_15 ?_
  refine r_alen (v := iZ 4) hX 1 0 rfl rfl rfl dX2_areDatesToldAnewSound_18 ?_
  refine r_icmp_geZ (tgt := 51) hX dX2_areDatesToldAnewSound_19 (by decide) (by decide) (by decide) (fun q => absurd q (by decide)) (fun _ => ?_)
  refine r_aload_n hX dX2_areDatesToldAnewSound_22 rfl rfl ?_
  refine r_aload_n hX dX2_areDatesToldAnewSound_23 rfl rfl ?_
  refine r_get hX kf_X2_20 0 rfl rfl dX2_areDatesToldAnewSound_24 ?_
  refine r_iload_n hX dX2_areDatesToldAnewSound_27 rfl rfl ?_
  refine r_callS hX (z_X2_at_ok ad cs _ 3 _ 4 0 rfl (by decide) _ 3 (by omega) (by decide)) ks_X2_84 rfl rfl (Nat.le_of_ble_eq_true rfl) ⟨(Nat.le_of_ble_eq_true rfl), (Nat.le_of_ble_eq_true rfl)⟩ ⟨(Nat.le_of_ble_eq_true rfl), (Nat.le_of_ble_eq_true rfl)⟩ dX2_areDatesToldAnewSound_28 (fun _ _ z => False.elim z) (fun v9 ws9 h40 => ?_)
  obtain ⟨rfl, hw9⟩ := h40
  subst ws9
  dsimp only [mPush]
  refine r_aload_n hX dX2_areDatesToldAnewSound_31 rfl rfl ?_
  refine r_get hX kf_X2_9 0 rfl rfl dX2_areDatesToldAnewSound_32 ?_
  refine r_iload_n hX dX2_areDatesToldAnewSound_35 rfl rfl ?_
  refine r_ialdZ hX 1 0 rfl rfl 1 (by decide) (by decide) (by decide) dX2_areDatesToldAnewSound_36 ?_
  refine r_callV hX (z_X2_isToldAnewSound ad cs S T39 rest hS 3 (by decide) _ (by omega)) kv_X2_366 0 rfl rfl rfl rfl (Nat.le_of_ble_eq_true rfl) ⟨(Nat.le_of_ble_eq_true rfl), (Nat.le_of_ble_eq_true rfl)⟩ ⟨(Nat.le_of_ble_eq_true rfl), (Nat.le_of_ble_eq_true rfl)⟩ dX2_areDatesToldAnewSound_37 (fun _ _ z => False.elim z) (fun v9 ws9 h41 => ?_)
  obtain ⟨rfl, T42, hw9⟩ := h41
  subst ws9
  dsimp only [mPush]
  refine r_if_neB (tgt := 45) hX dX2_areDatesToldAnewSound_40 (by decide) (fun _ => ?_) (fun q => absurd q (by decide))
  refine r_iincZ (z := 1) (y := 2) hX dX2_areDatesToldAnewSound_45 rfl (by decide) rfl rfl ?_
  refine r_goto (tgt := 13) hX dX2_areDatesToldAnewSound_48 (by decide) ?_
  refine r_iload_n hX dX2_areDatesToldAnewSound_13 rfl rfl ?_
  refine r_aload_n hX dX2_areDatesToldAnewSound_14 rfl rfl ?_
  refine r_get hX kf_X2_9 0 rfl rfl dX2_areDatesToldAnewSound_15 ?_
  refine r_alen (v := iZ 4) hX 1 0 rfl rfl rfl dX2_areDatesToldAnewSound_18 ?_
  refine r_icmp_geZ (tgt := 51) hX dX2_areDatesToldAnewSound_19 (by decide) (by decide) (by decide) (fun q => absurd q (by decide)) (fun _ => ?_)
  refine r_aload_n hX dX2_areDatesToldAnewSound_22 rfl rfl ?_
  refine r_aload_n hX dX2_areDatesToldAnewSound_23 rfl rfl ?_
  refine r_get hX kf_X2_20 0 rfl rfl dX2_areDatesToldAnewSound_24 ?_
  refine r_iload_n hX dX2_areDatesToldAnewSound_27 rfl rfl ?_
  refine r_callS hX (z_X2_at_ok ad cs _ 3 _ 4 0 rfl (by decide) _ 3 (by omega) (by decide)) ks_X2_84 rfl rfl (Nat.le_of_ble_eq_true rfl) ⟨(Nat.le_of_ble_eq_true rfl), (Nat.le_of_ble_eq_true rfl)⟩ ⟨(Nat.le_of_ble_eq_true rfl), (Nat.le_of_ble_eq_true rfl)⟩ dX2_areDatesToldAnewSound_28 (fun _ _ z => False.elim z) (fun v9 ws9 h43 => ?_)
  obtain ⟨rfl, hw9⟩ := h43
  subst ws9
  dsimp only [mPush]
  refine r_aload_n hX dX2_areDatesToldAnewSound_31 rfl rfl ?_
  refine r_get hX kf_X2_9 0 rfl rfl dX2_areDatesToldAnewSound_32 ?_
  refine r_iload_n hX dX2_areDatesToldAnewSound_35 rfl rfl ?_
  refine r_ialdZ hX 1 0 rfl rfl 2 (by decide) (by decide) (by decide) dX2_areDatesToldAnewSound_36 ?_
  refine r_callV hX (z_X2_isToldAnewSound ad cs S T42 rest hS 3 (by decide) _ (by omega)) kv_X2_366 0 rfl rfl rfl rfl (Nat.le_of_ble_eq_true rfl) ⟨(Nat.le_of_ble_eq_true rfl), (Nat.le_of_ble_eq_true rfl)⟩ ⟨(Nat.le_of_ble_eq_true rfl), (Nat.le_of_ble_eq_true rfl)⟩ dX2_areDatesToldAnewSound_37 (fun _ _ z => False.elim z) (fun v9 ws9 h44 => ?_)
  obtain ⟨rfl, T45, hw9⟩ := h44
  subst ws9
  dsimp only [mPush]
  refine r_if_neB (tgt := 45) hX dX2_areDatesToldAnewSound_40 (by decide) (fun _ => ?_) (fun q => absurd q (by decide))
  refine r_iincZ (z := 1) (y := 3) hX dX2_areDatesToldAnewSound_45 rfl (by decide) rfl rfl ?_
  refine r_goto (tgt := 13) hX dX2_areDatesToldAnewSound_48 (by decide) ?_
  refine r_iload_n hX dX2_areDatesToldAnewSound_13 rfl rfl ?_
  refine r_aload_n hX dX2_areDatesToldAnewSound_14 rfl rfl ?_
  refine r_get hX kf_X2_9 0 rfl rfl dX2_areDatesToldAnewSound_15 ?_
  refine r_alen (v := iZ 4) hX 1 0 rfl rfl rfl dX2_areDatesToldAnewSound_18 ?_
  refine r_icmp_geZ (tgt := 51) hX dX2_areDatesToldAnewSound_19 (by decide) (by decide) (by decide) (fun q => absurd q (by decide)) (fun _ => ?_)
  refine r_aload_n hX dX2_areDatesToldAnewSound_22 rfl rfl ?_
  refine r_aload_n hX dX2_areDatesToldAnewSound_23 rfl rfl ?_
  refine r_get hX kf_X2_20 0 rfl rfl dX2_areDatesToldAnewSound_24 ?_
  refine r_iload_n hX dX2_areDatesToldAnewSound_27 rfl rfl ?_
  refine r_callS hX (z_X2_at_ok ad cs _ 3 _ 4 0 rfl (by decide) _ 3 (by omega) (by decide)) ks_X2_84 rfl rfl (Nat.le_of_ble_eq_true rfl) ⟨(Nat.le_of_ble_eq_true rfl), (Nat.le_of_ble_eq_true rfl)⟩ ⟨(Nat.le_of_ble_eq_true rfl), (Nat.le_of_ble_eq_true rfl)⟩ dX2_areDatesToldAnewSound_28 (fun _ _ z => False.elim z) (fun v9 ws9 h46 => ?_)
  obtain ⟨rfl, hw9⟩ := h46
  subst ws9
  dsimp only [mPush]
  refine r_aload_n hX dX2_areDatesToldAnewSound_31 rfl rfl ?_
  refine r_get hX kf_X2_9 0 rfl rfl dX2_areDatesToldAnewSound_32 ?_
  refine r_iload_n hX dX2_areDatesToldAnewSound_35 rfl rfl ?_
  refine r_ialdZ hX 1 0 rfl rfl 3 (by decide) (by decide) (by decide) dX2_areDatesToldAnewSound_36 ?_
  refine r_callV hX (z_X2_isToldAnewSound ad cs S T45 rest hS 3 (by decide) _ (by omega)) kv_X2_366 0 rfl rfl rfl rfl (Nat.le_of_ble_eq_true rfl) ⟨(Nat.le_of_ble_eq_true rfl), (Nat.le_of_ble_eq_true rfl)⟩ ⟨(Nat.le_of_ble_eq_true rfl), (Nat.le_of_ble_eq_true rfl)⟩ dX2_areDatesToldAnewSound_37 (fun _ _ z => False.elim z) (fun v9 ws9 h47 => ?_)
  obtain ⟨rfl, T48, hw9⟩ := h47
  subst ws9
  dsimp only [mPush]
  refine r_if_neB (tgt := 45) hX dX2_areDatesToldAnewSound_40 (by decide) (fun _ => ?_) (fun q => absurd q (by decide))
  refine r_iincZ (z := 1) (y := 4) hX dX2_areDatesToldAnewSound_45 rfl (by decide) rfl rfl ?_
  refine r_goto (tgt := 13) hX dX2_areDatesToldAnewSound_48 (by decide) ?_
  refine r_iload_n hX dX2_areDatesToldAnewSound_13 rfl rfl ?_
  refine r_aload_n hX dX2_areDatesToldAnewSound_14 rfl rfl ?_
  refine r_get hX kf_X2_9 0 rfl rfl dX2_areDatesToldAnewSound_15 ?_
  refine r_alen (v := iZ 4) hX 1 0 rfl rfl rfl dX2_areDatesToldAnewSound_18 ?_
  refine r_icmp_geZ (tgt := 51) hX dX2_areDatesToldAnewSound_19 (by decide) (by decide) (by decide) (fun _ => ?_) (fun q => absurd (by decide) q)
  refine r_iincZ (z := 1) (y := 4) hX dX2_areDatesToldAnewSound_51 rfl (by decide) rfl rfl ?_
  refine r_goto (tgt := 2) hX dX2_areDatesToldAnewSound_54 (by decide) ?_
  refine r_iload_n hX dX2_areDatesToldAnewSound_2 rfl rfl ?_
  refine r_aload_n hX dX2_areDatesToldAnewSound_3 rfl rfl ?_
  refine r_get hX kf_X2_20 0 rfl rfl dX2_areDatesToldAnewSound_4 ?_
  refine r_alen (v := iZ 4) hX 3 2 rfl rfl rfl dX2_areDatesToldAnewSound_7 ?_
  refine r_icmp_geZ (tgt := 57) hX dX2_areDatesToldAnewSound_8 (by decide) (by decide) (by decide) (fun _ => ?_) (fun q => absurd (by decide) q)
  refine r_iconstZ hX dX2_areDatesToldAnewSound_57 ?_
  exact r_zret hX hE dX2_areDatesToldAnewSound_58 (by decide) (Nat.le_of_ble_eq_true rfl) (Nat.le_of_ble_eq_true rfl) ⟨rfl, _, rfl⟩
set_option maxHeartbeats 4000000 in
set_option maxRecDepth 20000 in
theorem z_X2_arePairsSound (ad : Nat → Nat) (cs : ClassId × ClassId × ClassId) (S : mS) (T : mT2) (rest : va_W) (hS : sWF S)  : mCt (mTy cs) yX2_arePairsSound cX2_arePairsSound 3 (some .boolean) ⟨4, 0, 0, 90⟩ [.ref (ad 0)] (mWd ad cs (mKof S T) rest) (fun v ws' => v = some (.int (b2i true)) ∧ ∃ T' : mT2, ws' = mWd ad cs (mKof S T') rest) mNo := by
  refine mCt.of (by decide +kernel) (Nat.le_of_ble_eq_true rfl) (fun X hX hE => ?_)
  replace hX : mOK X RX2 cX2_arePairsSound 3 ⟨4, 0, 0, 90⟩ [] (mTy cs) := hX
  refine r_iconstZ hX dX2_arePairsSound_0 ?_
  refine r_istore_n hX dX2_arePairsSound_1 rfl (by decide) rfl ?_
  refine r_iload_n hX dX2_arePairsSound_2 rfl rfl ?_
  refine r_aload_n hX dX2_arePairsSound_3 rfl rfl ?_
  refine r_get hX kf_X2_20 0 rfl rfl dX2_arePairsSound_4 ?_
  refine r_alen (v := iZ 4) hX 3 2 rfl rfl rfl dX2_arePairsSound_7 ?_
  refine r_icmp_geZ (tgt := 58) hX dX2_arePairsSound_8 (by decide) (by decide) (by decide) (fun q => absurd q (by decide)) (fun _ => ?_)
  refine r_iconstZ hX dX2_arePairsSound_11 ?_
  refine r_istore_n hX dX2_arePairsSound_12 rfl (by decide) rfl ?_
  refine r_iload_n hX dX2_arePairsSound_13 rfl rfl ?_
  refine r_aload_n hX dX2_arePairsSound_14 rfl rfl ?_
  refine r_get hX kf_X2_20 0 rfl rfl dX2_arePairsSound_15 ?_
  refine r_alen (v := iZ 4) hX 3 2 rfl rfl rfl dX2_arePairsSound_18 ?_
  refine r_icmp_geZ (tgt := 52) hX dX2_arePairsSound_19 (by decide) (by decide) (by decide) (fun q => absurd q (by decide)) (fun _ => ?_)
  refine r_aload_n hX dX2_arePairsSound_22 rfl rfl ?_
  refine r_get hX kf_X2_20 0 rfl rfl dX2_arePairsSound_23 ?_
  refine r_iload_n hX dX2_arePairsSound_26 rfl rfl ?_
  refine r_callS hX (z_X2_at_ok ad cs _ 3 _ 4 0 rfl (by decide) _ 0 (by omega) (by decide)) ks_X2_84 rfl rfl (Nat.le_of_ble_eq_true rfl) ⟨(Nat.le_of_ble_eq_true rfl), (Nat.le_of_ble_eq_true rfl)⟩ ⟨(Nat.le_of_ble_eq_true rfl), (Nat.le_of_ble_eq_true rfl)⟩ dX2_arePairsSound_27 (fun _ _ z => False.elim z) (fun v9 ws9 h1 => ?_)
  obtain ⟨rfl, hw9⟩ := h1
  subst ws9
  dsimp only [mPush]
  refine r_aload_n hX dX2_arePairsSound_30 rfl rfl ?_
  refine r_get hX kf_X2_20 0 rfl rfl dX2_arePairsSound_31 ?_
  refine r_iload_n hX dX2_arePairsSound_34 rfl rfl ?_
  refine r_callS hX (z_X2_at_ok ad cs _ 3 _ 4 0 rfl (by decide) _ 0 (by omega) (by decide)) ks_X2_84 rfl rfl (Nat.le_of_ble_eq_true rfl) ⟨(Nat.le_of_ble_eq_true rfl), (Nat.le_of_ble_eq_true rfl)⟩ ⟨(Nat.le_of_ble_eq_true rfl), (Nat.le_of_ble_eq_true rfl)⟩ dX2_arePairsSound_35 (fun _ _ z => False.elim z) (fun v9 ws9 h2 => ?_)
  obtain ⟨rfl, hw9⟩ := h2
  subst ws9
  dsimp only [mPush]
  refine r_callS hX (z_X2_isPairSound _ _ (0 + 5) _ _ _ _ (zWd_loc (d := 0) (by decide)) (zrg hS (by decide)) (0 + 5) _ _ _ _ (zWd_loc (d := 0) (by decide)) (zrg hS (by decide))) ks_X2_370 rfl rfl (Nat.le_of_ble_eq_true rfl) ⟨(Nat.le_of_ble_eq_true rfl), (Nat.le_of_ble_eq_true rfl)⟩ ⟨(Nat.le_of_ble_eq_true rfl), (Nat.le_of_ble_eq_true rfl)⟩ dX2_arePairsSound_38 (fun _ _ z => False.elim z) (fun v9 ws9 h3 => ?_)
  obtain ⟨rfl, hw9⟩ := h3
  subst ws9
  dsimp only [mPush]
  refine r_if_neB (tgt := 46) hX dX2_arePairsSound_41 (by decide) (fun _ => ?_) (fun q => absurd q (by decide))
  refine r_iincZ (z := 1) (y := 1) hX dX2_arePairsSound_46 rfl (by decide) rfl rfl ?_
  refine r_goto (tgt := 13) hX dX2_arePairsSound_49 (by decide) ?_
  refine r_iload_n hX dX2_arePairsSound_13 rfl rfl ?_
  refine r_aload_n hX dX2_arePairsSound_14 rfl rfl ?_
  refine r_get hX kf_X2_20 0 rfl rfl dX2_arePairsSound_15 ?_
  refine r_alen (v := iZ 4) hX 3 2 rfl rfl rfl dX2_arePairsSound_18 ?_
  refine r_icmp_geZ (tgt := 52) hX dX2_arePairsSound_19 (by decide) (by decide) (by decide) (fun q => absurd q (by decide)) (fun _ => ?_)
  refine r_aload_n hX dX2_arePairsSound_22 rfl rfl ?_
  refine r_get hX kf_X2_20 0 rfl rfl dX2_arePairsSound_23 ?_
  refine r_iload_n hX dX2_arePairsSound_26 rfl rfl ?_
  refine r_callS hX (z_X2_at_ok ad cs _ 3 _ 4 0 rfl (by decide) _ 0 (by omega) (by decide)) ks_X2_84 rfl rfl (Nat.le_of_ble_eq_true rfl) ⟨(Nat.le_of_ble_eq_true rfl), (Nat.le_of_ble_eq_true rfl)⟩ ⟨(Nat.le_of_ble_eq_true rfl), (Nat.le_of_ble_eq_true rfl)⟩ dX2_arePairsSound_27 (fun _ _ z => False.elim z) (fun v9 ws9 h4 => ?_)
  obtain ⟨rfl, hw9⟩ := h4
  subst ws9
  dsimp only [mPush]
  refine r_aload_n hX dX2_arePairsSound_30 rfl rfl ?_
  refine r_get hX kf_X2_20 0 rfl rfl dX2_arePairsSound_31 ?_
  refine r_iload_n hX dX2_arePairsSound_34 rfl rfl ?_
  refine r_callS hX (z_X2_at_ok ad cs _ 3 _ 4 0 rfl (by decide) _ 1 (by omega) (by decide)) ks_X2_84 rfl rfl (Nat.le_of_ble_eq_true rfl) ⟨(Nat.le_of_ble_eq_true rfl), (Nat.le_of_ble_eq_true rfl)⟩ ⟨(Nat.le_of_ble_eq_true rfl), (Nat.le_of_ble_eq_true rfl)⟩ dX2_arePairsSound_35 (fun _ _ z => False.elim z) (fun v9 ws9 h5 => ?_)
  obtain ⟨rfl, hw9⟩ := h5
  subst ws9
  dsimp only [mPush]
  refine r_callS hX (z_X2_isPairSound _ _ (0 + 5) _ _ _ _ (zWd_loc (d := 0) (by decide)) (zrg hS (by decide)) (1 + 5) _ _ _ _ (zWd_loc (d := 1) (by decide)) (zrg hS (by decide))) ks_X2_370 rfl rfl (Nat.le_of_ble_eq_true rfl) ⟨(Nat.le_of_ble_eq_true rfl), (Nat.le_of_ble_eq_true rfl)⟩ ⟨(Nat.le_of_ble_eq_true rfl), (Nat.le_of_ble_eq_true rfl)⟩ dX2_arePairsSound_38 (fun _ _ z => False.elim z) (fun v9 ws9 h6 => ?_)
  obtain ⟨rfl, hw9⟩ := h6
  subst ws9
  dsimp only [mPush]
  refine r_if_neB (tgt := 46) hX dX2_arePairsSound_41 (by decide) (fun _ => ?_) (fun q => absurd q (by decide))
  refine r_iincZ (z := 1) (y := 2) hX dX2_arePairsSound_46 rfl (by decide) rfl rfl ?_
  refine r_goto (tgt := 13) hX dX2_arePairsSound_49 (by decide) ?_
  refine r_iload_n hX dX2_arePairsSound_13 rfl rfl ?_
  refine r_aload_n hX dX2_arePairsSound_14 rfl rfl ?_
  refine r_get hX kf_X2_20 0 rfl rfl dX2_arePairsSound_15 ?_
  refine r_alen (v := iZ 4) hX 3 2 rfl rfl rfl dX2_arePairsSound_18 ?_
  refine r_icmp_geZ (tgt := 52) hX dX2_arePairsSound_19 (by decide) (by decide) (by decide) (fun q => absurd q (by decide)) (fun _ => ?_)
  refine r_aload_n hX dX2_arePairsSound_22 rfl rfl ?_
  refine r_get hX kf_X2_20 0 rfl rfl dX2_arePairsSound_23 ?_
  refine r_iload_n hX dX2_arePairsSound_26 rfl rfl ?_
  refine r_callS hX (z_X2_at_ok ad cs _ 3 _ 4 0 rfl (by decide) _ 0 (by omega) (by decide)) ks_X2_84 rfl rfl (Nat.le_of_ble_eq_true rfl) ⟨(Nat.le_of_ble_eq_true rfl), (Nat.le_of_ble_eq_true rfl)⟩ ⟨(Nat.le_of_ble_eq_true rfl), (Nat.le_of_ble_eq_true rfl)⟩ dX2_arePairsSound_27 (fun _ _ z => False.elim z) (fun v9 ws9 h7 => ?_)
  obtain ⟨rfl, hw9⟩ := h7
  subst ws9
  dsimp only [mPush]
  refine r_aload_n hX dX2_arePairsSound_30 rfl rfl ?_
  refine r_get hX kf_X2_20 0 rfl rfl dX2_arePairsSound_31 ?_
  refine r_iload_n hX dX2_arePairsSound_34 rfl rfl ?_
  refine r_callS hX (z_X2_at_ok ad cs _ 3 _ 4 0 rfl (by decide) _ 2 (by omega) (by decide)) ks_X2_84 rfl rfl (Nat.le_of_ble_eq_true rfl) ⟨(Nat.le_of_ble_eq_true rfl), (Nat.le_of_ble_eq_true rfl)⟩ ⟨(Nat.le_of_ble_eq_true rfl), (Nat.le_of_ble_eq_true rfl)⟩ dX2_arePairsSound_35 (fun _ _ z => False.elim z) (fun v9 ws9 h8 => ?_)
  obtain ⟨rfl, hw9⟩ := h8
  subst ws9
  dsimp only [mPush]
  refine r_callS hX (z_X2_isPairSound _ _ (0 + 5) _ _ _ _ (zWd_loc (d := 0) (by decide)) (zrg hS (by decide)) (2 + 5) _ _ _ _ (zWd_loc (d := 2) (by decide)) (zrg hS (by decide))) ks_X2_370 rfl rfl (Nat.le_of_ble_eq_true rfl) ⟨(Nat.le_of_ble_eq_true rfl), (Nat.le_of_ble_eq_true rfl)⟩ ⟨(Nat.le_of_ble_eq_true rfl), (Nat.le_of_ble_eq_true rfl)⟩ dX2_arePairsSound_38 (fun _ _ z => False.elim z) (fun v9 ws9 h9 => ?_)
  obtain ⟨rfl, hw9⟩ := h9
  subst ws9
  dsimp only [mPush]
  refine r_if_neB (tgt := 46) hX dX2_arePairsSound_41 (by decide) (fun _ => ?_) (fun q => absurd q (by decide))
  refine r_iincZ (z := 1) (y := 3) hX dX2_arePairsSound_46 rfl (by decide) rfl rfl ?_
  refine r_goto (tgt := 13) hX dX2_arePairsSound_49 (by decide) ?_
  refine r_iload_n hX dX2_arePairsSound_13 rfl rfl ?_
  refine r_aload_n hX dX2_arePairsSound_14 rfl rfl ?_
  refine r_get hX kf_X2_20 0 rfl rfl dX2_arePairsSound_15 ?_
  refine r_alen (v := iZ 4) hX 3 2 rfl rfl rfl dX2_arePairsSound_18 ?_
  refine r_icmp_geZ (tgt := 52) hX dX2_arePairsSound_19 (by decide) (by decide) (by decide) (fun q => absurd q (by decide)) (fun _ => ?_)
  refine r_aload_n hX dX2_arePairsSound_22 rfl rfl ?_
  refine r_get hX kf_X2_20 0 rfl rfl dX2_arePairsSound_23 ?_
  refine r_iload_n hX dX2_arePairsSound_26 rfl rfl ?_
  refine r_callS hX (z_X2_at_ok ad cs _ 3 _ 4 0 rfl (by decide) _ 0 (by omega) (by decide)) ks_X2_84 rfl rfl (Nat.le_of_ble_eq_true rfl) ⟨(Nat.le_of_ble_eq_true rfl), (Nat.le_of_ble_eq_true rfl)⟩ ⟨(Nat.le_of_ble_eq_true rfl), (Nat.le_of_ble_eq_true rfl)⟩ dX2_arePairsSound_27 (fun _ _ z => False.elim z) (fun v9 ws9 h10 => ?_)
  obtain ⟨rfl, hw9⟩ := h10
  subst ws9
  dsimp only [mPush]
  refine r_aload_n hX dX2_arePairsSound_30 rfl rfl ?_
  refine r_get hX kf_X2_20 0 rfl rfl dX2_arePairsSound_31 ?_
  refine r_iload_n hX dX2_arePairsSound_34 rfl rfl ?_
  refine r_callS hX (z_X2_at_ok ad cs _ 3 _ 4 0 rfl (by decide) _ 3 (by omega) (by decide)) ks_X2_84 rfl rfl (Nat.le_of_ble_eq_true rfl) ⟨(Nat.le_of_ble_eq_true rfl), (Nat.le_of_ble_eq_true rfl)⟩ ⟨(Nat.le_of_ble_eq_true rfl), (Nat.le_of_ble_eq_true rfl)⟩ dX2_arePairsSound_35 (fun _ _ z => False.elim z) (fun v9 ws9 h11 => ?_)
  obtain ⟨rfl, hw9⟩ := h11
  subst ws9
  dsimp only [mPush]
  refine r_callS hX (z_X2_isPairSound _ _ (0 + 5) _ _ _ _ (zWd_loc (d := 0) (by decide)) (zrg hS (by decide)) (3 + 5) _ _ _ _ (zWd_loc (d := 3) (by decide)) (zrg hS (by decide))) ks_X2_370 rfl rfl (Nat.le_of_ble_eq_true rfl) ⟨(Nat.le_of_ble_eq_true rfl), (Nat.le_of_ble_eq_true rfl)⟩ ⟨(Nat.le_of_ble_eq_true rfl), (Nat.le_of_ble_eq_true rfl)⟩ dX2_arePairsSound_38 (fun _ _ z => False.elim z) (fun v9 ws9 h12 => ?_)
  obtain ⟨rfl, hw9⟩ := h12
  subst ws9
  dsimp only [mPush]
  refine r_if_neB (tgt := 46) hX dX2_arePairsSound_41 (by decide) (fun _ => ?_) (fun q => absurd q (by decide))
  refine r_iincZ (z := 1) (y := 4) hX dX2_arePairsSound_46 rfl (by decide) rfl rfl ?_
  refine r_goto (tgt := 13) hX dX2_arePairsSound_49 (by decide) ?_
  refine r_iload_n hX dX2_arePairsSound_13 rfl rfl ?_
  refine r_aload_n hX dX2_arePairsSound_14 rfl rfl ?_
  refine r_get hX kf_X2_20 0 rfl rfl dX2_arePairsSound_15 ?_
  refine r_alen (v := iZ 4) hX 3 2 rfl rfl rfl dX2_arePairsSound_18 ?_
  refine r_icmp_geZ (tgt := 52) hX dX2_arePairsSound_19 (by decide) (by decide) (by decide) (fun _ => ?_) (fun q => absurd (by decide) q)
  refine r_iincZ (z := 1) (y := 1) hX dX2_arePairsSound_52 rfl (by decide) rfl rfl ?_
  refine r_goto (tgt := 2) hX dX2_arePairsSound_55 (by decide) ?_
  refine r_iload_n hX dX2_arePairsSound_2 rfl rfl ?_
  refine r_aload_n hX dX2_arePairsSound_3 rfl rfl ?_
  refine r_get hX kf_X2_20 0 rfl rfl dX2_arePairsSound_4 ?_
  refine r_alen (v := iZ 4) hX 3 2 rfl rfl rfl dX2_arePairsSound_7 ?_
  refine r_icmp_geZ (tgt := 58) hX dX2_arePairsSound_8 (by decide) (by decide) (by decide) (fun q => absurd q (by decide)) (fun _ => ?_)
  refine r_iconstZ hX dX2_arePairsSound_11 ?_
  refine r_istore_n hX dX2_arePairsSound_12 rfl (by decide) rfl ?_
  refine r_iload_n hX dX2_arePairsSound_13 rfl rfl ?_
  refine r_aload_n hX dX2_arePairsSound_14 rfl rfl ?_
  refine r_get hX kf_X2_20 0 rfl rfl dX2_arePairsSound_15 ?_
  refine r_alen (v := iZ 4) hX 3 2 rfl rfl rfl dX2_arePairsSound_18 ?_
  refine r_icmp_geZ (tgt := 52) hX dX2_arePairsSound_19 (by decide) (by decide) (by decide) (fun q => absurd q (by decide)) (fun _ => ?_)
  refine r_aload_n hX dX2_arePairsSound_22 rfl rfl ?_
  refine r_get hX kf_X2_20 0 rfl rfl dX2_arePairsSound_23 ?_
  refine r_iload_n hX dX2_arePairsSound_26 rfl rfl ?_
  refine r_callS hX (z_X2_at_ok ad cs _ 3 _ 4 0 rfl (by decide) _ 1 (by omega) (by decide)) ks_X2_84 rfl rfl (Nat.le_of_ble_eq_true rfl) ⟨(Nat.le_of_ble_eq_true rfl), (Nat.le_of_ble_eq_true rfl)⟩ ⟨(Nat.le_of_ble_eq_true rfl), (Nat.le_of_ble_eq_true rfl)⟩ dX2_arePairsSound_27 (fun _ _ z => False.elim z) (fun v9 ws9 h13 => ?_)
  obtain ⟨rfl, hw9⟩ := h13
  subst ws9
  dsimp only [mPush]
  refine r_aload_n hX dX2_arePairsSound_30 rfl rfl ?_
  refine r_get hX kf_X2_20 0 rfl rfl dX2_arePairsSound_31 ?_
  refine r_iload_n hX dX2_arePairsSound_34 rfl rfl ?_
  refine r_callS hX (z_X2_at_ok ad cs _ 3 _ 4 0 rfl (by decide) _ 0 (by omega) (by decide)) ks_X2_84 rfl rfl (Nat.le_of_ble_eq_true rfl) ⟨(Nat.le_of_ble_eq_true rfl), (Nat.le_of_ble_eq_true rfl)⟩ ⟨(Nat.le_of_ble_eq_true rfl), (Nat.le_of_ble_eq_true rfl)⟩ dX2_arePairsSound_35 (fun _ _ z => False.elim z) (fun v9 ws9 h14 => ?_)
  obtain ⟨rfl, hw9⟩ := h14
  subst ws9
  dsimp only [mPush]
  refine r_callS hX (z_X2_isPairSound _ _ (1 + 5) _ _ _ _ (zWd_loc (d := 1) (by decide)) (zrg hS (by decide)) (0 + 5) _ _ _ _ (zWd_loc (d := 0) (by decide)) (zrg hS (by decide))) ks_X2_370 rfl rfl (Nat.le_of_ble_eq_true rfl) ⟨(Nat.le_of_ble_eq_true rfl), (Nat.le_of_ble_eq_true rfl)⟩ ⟨(Nat.le_of_ble_eq_true rfl), (Nat.le_of_ble_eq_true rfl)⟩ dX2_arePairsSound_38 (fun _ _ z => False.elim z) (fun v9 ws9 h15 => ?_)
  obtain ⟨rfl, hw9⟩ := h15
  subst ws9
  dsimp only [mPush]
  refine r_if_neB (tgt := 46) hX dX2_arePairsSound_41 (by decide) (fun _ => ?_) (fun q => absurd q (by decide))
  refine r_iincZ (z := 1) (y := 1) hX dX2_arePairsSound_46 rfl (by decide) rfl rfl ?_
  refine r_goto (tgt := 13) hX dX2_arePairsSound_49 (by decide) ?_
  refine r_iload_n hX dX2_arePairsSound_13 rfl rfl ?_
  refine r_aload_n hX dX2_arePairsSound_14 rfl rfl ?_
  refine r_get hX kf_X2_20 0 rfl rfl dX2_arePairsSound_15 ?_
  refine r_alen (v := iZ 4) hX 3 2 rfl rfl rfl dX2_arePairsSound_18 ?_
  refine r_icmp_geZ (tgt := 52) hX dX2_arePairsSound_19 (by decide) (by decide) (by decide) (fun q => absurd q (by decide)) (fun _ => ?_)
  refine r_aload_n hX dX2_arePairsSound_22 rfl rfl ?_
  refine r_get hX kf_X2_20 0 rfl rfl dX2_arePairsSound_23 ?_
  refine r_iload_n hX dX2_arePairsSound_26 rfl rfl ?_
  refine r_callS hX (z_X2_at_ok ad cs _ 3 _ 4 0 rfl (by decide) _ 1 (by omega) (by decide)) ks_X2_84 rfl rfl (Nat.le_of_ble_eq_true rfl) ⟨(Nat.le_of_ble_eq_true rfl), (Nat.le_of_ble_eq_true rfl)⟩ ⟨(Nat.le_of_ble_eq_true rfl), (Nat.le_of_ble_eq_true rfl)⟩ dX2_arePairsSound_27 (fun _ _ z => False.elim z) (fun v9 ws9 h16 => ?_)
  obtain ⟨rfl, hw9⟩ := h16
  subst ws9
  dsimp only [mPush]
  refine r_aload_n hX dX2_arePairsSound_30 rfl rfl ?_
  refine r_get hX kf_X2_20 0 rfl rfl dX2_arePairsSound_31 ?_
  refine r_iload_n hX dX2_arePairsSound_34 rfl rfl ?_
  refine r_callS hX (z_X2_at_ok ad cs _ 3 _ 4 0 rfl (by decide) _ 1 (by omega) (by decide)) ks_X2_84 rfl rfl (Nat.le_of_ble_eq_true rfl) ⟨(Nat.le_of_ble_eq_true rfl), (Nat.le_of_ble_eq_true rfl)⟩ ⟨(Nat.le_of_ble_eq_true rfl), (Nat.le_of_ble_eq_true rfl)⟩ dX2_arePairsSound_35 (fun _ _ z => False.elim z) (fun v9 ws9 h17 => ?_)
  obtain ⟨rfl, hw9⟩ := h17
  subst ws9
  dsimp only [mPush]
  refine r_callS hX (z_X2_isPairSound _ _ (1 + 5) _ _ _ _ (zWd_loc (d := 1) (by decide)) (zrg hS (by decide)) (1 + 5) _ _ _ _ (zWd_loc (d := 1) (by decide)) (zrg hS (by decide))) ks_X2_370 rfl rfl (Nat.le_of_ble_eq_true rfl) ⟨(Nat.le_of_ble_eq_true rfl), (Nat.le_of_ble_eq_true rfl)⟩ ⟨(Nat.le_of_ble_eq_true rfl), (Nat.le_of_ble_eq_true rfl)⟩ dX2_arePairsSound_38 (fun _ _ z => False.elim z) (fun v9 ws9 h18 => ?_)
  obtain ⟨rfl, hw9⟩ := h18
  subst ws9
  dsimp only [mPush]
  refine r_if_neB (tgt := 46) hX dX2_arePairsSound_41 (by decide) (fun _ => ?_) (fun q => absurd q (by decide))
  refine r_iincZ (z := 1) (y := 2) hX dX2_arePairsSound_46 rfl (by decide) rfl rfl ?_
  refine r_goto (tgt := 13) hX dX2_arePairsSound_49 (by decide) ?_
  refine r_iload_n hX dX2_arePairsSound_13 rfl rfl ?_
  refine r_aload_n hX dX2_arePairsSound_14 rfl rfl ?_
  refine r_get hX kf_X2_20 0 rfl rfl dX2_arePairsSound_15 ?_
  refine r_alen (v := iZ 4) hX 3 2 rfl rfl rfl dX2_arePairsSound_18 ?_
  refine r_icmp_geZ (tgt := 52) hX dX2_arePairsSound_19 (by decide) (by decide) (by decide) (fun q => absurd q (by decide)) (fun _ => ?_)
  refine r_aload_n hX dX2_arePairsSound_22 rfl rfl ?_
  refine r_get hX kf_X2_20 0 rfl rfl dX2_arePairsSound_23 ?_
  refine r_iload_n hX dX2_arePairsSound_26 rfl rfl ?_
  refine r_callS hX (z_X2_at_ok ad cs _ 3 _ 4 0 rfl (by decide) _ 1 (by omega) (by decide)) ks_X2_84 rfl rfl (Nat.le_of_ble_eq_true rfl) ⟨(Nat.le_of_ble_eq_true rfl), (Nat.le_of_ble_eq_true rfl)⟩ ⟨(Nat.le_of_ble_eq_true rfl), (Nat.le_of_ble_eq_true rfl)⟩ dX2_arePairsSound_27 (fun _ _ z => False.elim z) (fun v9 ws9 h19 => ?_)
  obtain ⟨rfl, hw9⟩ := h19
  subst ws9
  dsimp only [mPush]
  refine r_aload_n hX dX2_arePairsSound_30 rfl rfl ?_
  refine r_get hX kf_X2_20 0 rfl rfl dX2_arePairsSound_31 ?_
  refine r_iload_n hX dX2_arePairsSound_34 rfl rfl ?_
  refine r_callS hX (z_X2_at_ok ad cs _ 3 _ 4 0 rfl (by decide) _ 2 (by omega) (by decide)) ks_X2_84 rfl rfl (Nat.le_of_ble_eq_true rfl) ⟨(Nat.le_of_ble_eq_true rfl), (Nat.le_of_ble_eq_true rfl)⟩ ⟨(Nat.le_of_ble_eq_true rfl), (Nat.le_of_ble_eq_true rfl)⟩ dX2_arePairsSound_35 (fun _ _ z => False.elim z) (fun v9 ws9 h20 => ?_)
  obtain ⟨rfl, hw9⟩ := h20
  subst ws9
  dsimp only [mPush]
  refine r_callS hX (z_X2_isPairSound _ _ (1 + 5) _ _ _ _ (zWd_loc (d := 1) (by decide)) (zrg hS (by decide)) (2 + 5) _ _ _ _ (zWd_loc (d := 2) (by decide)) (zrg hS (by decide))) ks_X2_370 rfl rfl (Nat.le_of_ble_eq_true rfl) ⟨(Nat.le_of_ble_eq_true rfl), (Nat.le_of_ble_eq_true rfl)⟩ ⟨(Nat.le_of_ble_eq_true rfl), (Nat.le_of_ble_eq_true rfl)⟩ dX2_arePairsSound_38 (fun _ _ z => False.elim z) (fun v9 ws9 h21 => ?_)
  obtain ⟨rfl, hw9⟩ := h21
  subst ws9
  dsimp only [mPush]
  refine r_if_neB (tgt := 46) hX dX2_arePairsSound_41 (by decide) (fun _ => ?_) (fun q => absurd q (by decide))
  refine r_iincZ (z := 1) (y := 3) hX dX2_arePairsSound_46 rfl (by decide) rfl rfl ?_
  refine r_goto (tgt := 13) hX dX2_arePairsSound_49 (by decide) ?_
  refine r_iload_n hX dX2_arePairsSound_13 rfl rfl ?_
  refine r_aload_n hX dX2_arePairsSound_14 rfl rfl ?_
  refine r_get hX kf_X2_20 0 rfl rfl dX2_arePairsSound_15 ?_
  refine r_alen (v := iZ 4) hX 3 2 rfl rfl rfl dX2_arePairsSound_18 ?_
  refine r_icmp_geZ (tgt := 52) hX dX2_arePairsSound_19 (by decide) (by decide) (by decide) (fun q => absurd q (by decide)) (fun _ => ?_)
  refine r_aload_n hX dX2_arePairsSound_22 rfl rfl ?_
  refine r_get hX kf_X2_20 0 rfl rfl dX2_arePairsSound_23 ?_
  refine r_iload_n hX dX2_arePairsSound_26 rfl rfl ?_
  refine r_callS hX (z_X2_at_ok ad cs _ 3 _ 4 0 rfl (by decide) _ 1 (by omega) (by decide)) ks_X2_84 rfl rfl (Nat.le_of_ble_eq_true rfl) ⟨(Nat.le_of_ble_eq_true rfl), (Nat.le_of_ble_eq_true rfl)⟩ ⟨(Nat.le_of_ble_eq_true rfl), (Nat.le_of_ble_eq_true rfl)⟩ dX2_arePairsSound_27 (fun _ _ z => False.elim z) (fun v9 ws9 h22 => ?_)
  obtain ⟨rfl, hw9⟩ := h22
  subst ws9
  dsimp only [mPush]
  refine r_aload_n hX dX2_arePairsSound_30 rfl rfl ?_
  refine r_get hX kf_X2_20 0 rfl rfl dX2_arePairsSound_31 ?_
  refine r_iload_n hX dX2_arePairsSound_34 rfl rfl ?_
  refine r_callS hX (z_X2_at_ok ad cs _ 3 _ 4 0 rfl (by decide) _ 3 (by omega) (by decide)) ks_X2_84 rfl rfl (Nat.le_of_ble_eq_true rfl) ⟨(Nat.le_of_ble_eq_true rfl), (Nat.le_of_ble_eq_true rfl)⟩ ⟨(Nat.le_of_ble_eq_true rfl), (Nat.le_of_ble_eq_true rfl)⟩ dX2_arePairsSound_35 (fun _ _ z => False.elim z) (fun v9 ws9 h23 => ?_)
  obtain ⟨rfl, hw9⟩ := h23
  subst ws9
  dsimp only [mPush]
  refine r_callS hX (z_X2_isPairSound _ _ (1 + 5) _ _ _ _ (zWd_loc (d := 1) (by decide)) (zrg hS (by decide)) (3 + 5) _ _ _ _ (zWd_loc (d := 3) (by decide)) (zrg hS (by decide))) ks_X2_370 rfl rfl (Nat.le_of_ble_eq_true rfl) ⟨(Nat.le_of_ble_eq_true rfl), (Nat.le_of_ble_eq_true rfl)⟩ ⟨(Nat.le_of_ble_eq_true rfl), (Nat.le_of_ble_eq_true rfl)⟩ dX2_arePairsSound_38 (fun _ _ z => False.elim z) (fun v9 ws9 h24 => ?_)
  obtain ⟨rfl, hw9⟩ := h24
  subst ws9
  dsimp only [mPush]
  refine r_if_neB (tgt := 46) hX dX2_arePairsSound_41 (by decide) (fun _ => ?_) (fun q => absurd q (by decide))
  refine r_iincZ (z := 1) (y := 4) hX dX2_arePairsSound_46 rfl (by decide) rfl rfl ?_
  refine r_goto (tgt := 13) hX dX2_arePairsSound_49 (by decide) ?_
  refine r_iload_n hX dX2_arePairsSound_13 rfl rfl ?_
  refine r_aload_n hX dX2_arePairsSound_14 rfl rfl ?_
  refine r_get hX kf_X2_20 0 rfl rfl dX2_arePairsSound_15 ?_
  refine r_alen (v := iZ 4) hX 3 2 rfl rfl rfl dX2_arePairsSound_18 ?_
  refine r_icmp_geZ (tgt := 52) hX dX2_arePairsSound_19 (by decide) (by decide) (by decide) (fun _ => ?_) (fun q => absurd (by decide) q)
  refine r_iincZ (z := 1) (y := 2) hX dX2_arePairsSound_52 rfl (by decide) rfl rfl ?_
  refine r_goto (tgt := 2) hX dX2_arePairsSound_55 (by decide) ?_
  refine r_iload_n hX dX2_arePairsSound_2 rfl rfl ?_
  refine r_aload_n hX dX2_arePairsSound_3 rfl rfl ?_
  refine r_get hX kf_X2_20 0 rfl rfl dX2_arePairsSound_4 ?_
  refine r_alen (v := iZ 4) hX 3 2 rfl rfl rfl dX2_arePairsSound_7 ?_
  refine r_icmp_geZ (tgt := 58) hX dX2_arePairsSound_8 (by decide) (by decide) (by decide) (fun q => absurd q (by decide)) (fun _ => ?_)
  refine r_iconstZ hX dX2_arePairsSound_11 ?_
  refine r_istore_n hX dX2_arePairsSound_12 rfl (by decide) rfl ?_
  refine r_iload_n hX dX2_arePairsSound_13 rfl rfl ?_
  refine r_aload_n hX dX2_arePairsSound_14 rfl rfl ?_
  refine r_get hX kf_X2_20 0 rfl rfl dX2_arePairsSound_15 ?_
  refine r_alen (v := iZ 4) hX 3 2 rfl rfl rfl dX2_arePairsSound_18 ?_
  refine r_icmp_geZ (tgt := 52) hX dX2_arePairsSound_19 (by decide) (by decide) (by decide) (fun q => absurd q (by decide)) (fun _ => ?_)
  refine r_aload_n hX dX2_arePairsSound_22 rfl rfl ?_
  refine r_get hX kf_X2_20 0 rfl rfl dX2_arePairsSound_23 ?_
  refine r_iload_n hX dX2_arePairsSound_26 rfl rfl ?_
  refine r_callS hX (z_X2_at_ok ad cs _ 3 _ 4 0 rfl (by decide) _ 2 (by omega) (by decide)) ks_X2_84 rfl rfl (Nat.le_of_ble_eq_true rfl) ⟨(Nat.le_of_ble_eq_true rfl), (Nat.le_of_ble_eq_true rfl)⟩ ⟨(Nat.le_of_ble_eq_true rfl), (Nat.le_of_ble_eq_true rfl)⟩ dX2_arePairsSound_27 (fun _ _ z => False.elim z) (fun v9 ws9 h25 => ?_)
  obtain ⟨rfl, hw9⟩ := h25
  subst ws9
  dsimp only [mPush]
  refine r_aload_n hX dX2_arePairsSound_30 rfl rfl ?_
  refine r_get hX kf_X2_20 0 rfl rfl dX2_arePairsSound_31 ?_
  refine r_iload_n hX dX2_arePairsSound_34 rfl rfl ?_
  refine r_callS hX (z_X2_at_ok ad cs _ 3 _ 4 0 rfl (by decide) _ 0 (by omega) (by decide)) ks_X2_84 rfl rfl (Nat.le_of_ble_eq_true rfl) ⟨(Nat.le_of_ble_eq_true rfl), (Nat.le_of_ble_eq_true rfl)⟩ ⟨(Nat.le_of_ble_eq_true rfl), (Nat.le_of_ble_eq_true rfl)⟩ dX2_arePairsSound_35 (fun _ _ z => False.elim z) (fun v9 ws9 h26 => ?_)
  obtain ⟨rfl, hw9⟩ := h26
  subst ws9
  dsimp only [mPush]
  refine r_callS hX (z_X2_isPairSound _ _ (2 + 5) _ _ _ _ (zWd_loc (d := 2) (by decide)) (zrg hS (by decide)) (0 + 5) _ _ _ _ (zWd_loc (d := 0) (by decide)) (zrg hS (by decide))) ks_X2_370 rfl rfl (Nat.le_of_ble_eq_true rfl) ⟨(Nat.le_of_ble_eq_true rfl), (Nat.le_of_ble_eq_true rfl)⟩ ⟨(Nat.le_of_ble_eq_true rfl), (Nat.le_of_ble_eq_true rfl)⟩ dX2_arePairsSound_38 (fun _ _ z => False.elim z) (fun v9 ws9 h27 => ?_)
  obtain ⟨rfl, hw9⟩ := h27
  subst ws9
  dsimp only [mPush]
  refine r_if_neB (tgt := 46) hX dX2_arePairsSound_41 (by decide) (fun _ => ?_) (fun q => absurd q (by decide))
  refine r_iincZ (z := 1) (y := 1) hX dX2_arePairsSound_46 rfl (by decide) rfl rfl ?_
  refine r_goto (tgt := 13) hX dX2_arePairsSound_49 (by decide) ?_
  refine r_iload_n hX dX2_arePairsSound_13 rfl rfl ?_
  refine r_aload_n hX dX2_arePairsSound_14 rfl rfl ?_
  refine r_get hX kf_X2_20 0 rfl rfl dX2_arePairsSound_15 ?_
  refine r_alen (v := iZ 4) hX 3 2 rfl rfl rfl dX2_arePairsSound_18 ?_
  refine r_icmp_geZ (tgt := 52) hX dX2_arePairsSound_19 (by decide) (by decide) (by decide) (fun q => absurd q (by decide)) (fun _ => ?_)
  refine r_aload_n hX dX2_arePairsSound_22 rfl rfl ?_
  refine r_get hX kf_X2_20 0 rfl rfl dX2_arePairsSound_23 ?_
  refine r_iload_n hX dX2_arePairsSound_26 rfl rfl ?_
  refine r_callS hX (z_X2_at_ok ad cs _ 3 _ 4 0 rfl (by decide) _ 2 (by omega) (by decide)) ks_X2_84 rfl rfl (Nat.le_of_ble_eq_true rfl) ⟨(Nat.le_of_ble_eq_true rfl), (Nat.le_of_ble_eq_true rfl)⟩ ⟨(Nat.le_of_ble_eq_true rfl), (Nat.le_of_ble_eq_true rfl)⟩ dX2_arePairsSound_27 (fun _ _ z => False.elim z) (fun v9 ws9 h28 => ?_)
  obtain ⟨rfl, hw9⟩ := h28
  subst ws9
  dsimp only [mPush]
  refine r_aload_n hX dX2_arePairsSound_30 rfl rfl ?_
  refine r_get hX kf_X2_20 0 rfl rfl dX2_arePairsSound_31 ?_
  refine r_iload_n hX dX2_arePairsSound_34 rfl rfl ?_
  refine r_callS hX (z_X2_at_ok ad cs _ 3 _ 4 0 rfl (by decide) _ 1 (by omega) (by decide)) ks_X2_84 rfl rfl (Nat.le_of_ble_eq_true rfl) ⟨(Nat.le_of_ble_eq_true rfl), (Nat.le_of_ble_eq_true rfl)⟩ ⟨(Nat.le_of_ble_eq_true rfl), (Nat.le_of_ble_eq_true rfl)⟩ dX2_arePairsSound_35 (fun _ _ z => False.elim z) (fun v9 ws9 h29 => ?_)
  obtain ⟨rfl, hw9⟩ := h29
  subst ws9
  dsimp only [mPush]
  refine r_callS hX (z_X2_isPairSound _ _ (2 + 5) _ _ _ _ (zWd_loc (d := 2) (by decide)) (zrg hS (by decide)) (1 + 5) _ _ _ _ (zWd_loc (d := 1) (by decide)) (zrg hS (by decide))) ks_X2_370 rfl rfl (Nat.le_of_ble_eq_true rfl) ⟨(Nat.le_of_ble_eq_true rfl), (Nat.le_of_ble_eq_true rfl)⟩ ⟨(Nat.le_of_ble_eq_true rfl), (Nat.le_of_ble_eq_true rfl)⟩ dX2_arePairsSound_38 (fun _ _ z => False.elim z) (fun v9 ws9 h30 => ?_)
  obtain ⟨rfl, hw9⟩ := h30
  subst ws9
  dsimp only [mPush]
  refine r_if_neB (tgt := 46) hX dX2_arePairsSound_41 (by decide) (fun _ => ?_) (fun q => absurd q (by decide))
  refine r_iincZ (z := 1) (y := 2) hX dX2_arePairsSound_46 rfl (by decide) rfl rfl ?_
  refine r_goto (tgt := 13) hX dX2_arePairsSound_49 (by decide) ?_
  refine r_iload_n hX dX2_arePairsSound_13 rfl rfl ?_
  refine r_aload_n hX dX2_arePairsSound_14 rfl rfl ?_
  refine r_get hX kf_X2_20 0 rfl rfl dX2_arePairsSound_15 ?_
  refine r_alen (v := iZ 4) hX 3 2 rfl rfl rfl dX2_arePairsSound_18 ?_
  refine r_icmp_geZ (tgt := 52) hX dX2_arePairsSound_19 (by decide) (by decide) (by decide) (fun q => absurd q (by decide)) (fun _ => ?_)
  refine r_aload_n hX dX2_arePairsSound_22 rfl rfl ?_
  refine r_get hX kf_X2_20 0 rfl rfl dX2_arePairsSound_23 ?_
  refine r_iload_n hX dX2_arePairsSound_26 rfl rfl ?_
  refine r_callS hX (z_X2_at_ok ad cs _ 3 _ 4 0 rfl (by decide) _ 2 (by omega) (by decide)) ks_X2_84 rfl rfl (Nat.le_of_ble_eq_true rfl) ⟨(Nat.le_of_ble_eq_true rfl), (Nat.le_of_ble_eq_true rfl)⟩ ⟨(Nat.le_of_ble_eq_true rfl), (Nat.le_of_ble_eq_true rfl)⟩ dX2_arePairsSound_27 (fun _ _ z => False.elim z) (fun v9 ws9 h31 => ?_)
  obtain ⟨rfl, hw9⟩ := h31
  subst ws9
  dsimp only [mPush]
  refine r_aload_n hX dX2_arePairsSound_30 rfl rfl ?_
  refine r_get hX kf_X2_20 0 rfl rfl dX2_arePairsSound_31 ?_
  refine r_iload_n hX dX2_arePairsSound_34 rfl rfl ?_
  refine r_callS hX (z_X2_at_ok ad cs _ 3 _ 4 0 rfl (by decide) _ 2 (by omega) (by decide)) ks_X2_84 rfl rfl (Nat.le_of_ble_eq_true rfl) ⟨(Nat.le_of_ble_eq_true rfl), (Nat.le_of_ble_eq_true rfl)⟩ ⟨(Nat.le_of_ble_eq_true rfl), (Nat.le_of_ble_eq_true rfl)⟩ dX2_arePairsSound_35 (fun _ _ z => False.elim z) (fun v9 ws9 h32 => ?_)
  obtain ⟨rfl, hw9⟩ := h32
  subst ws9
  dsimp only [mPush]
  refine r_callS hX (z_X2_isPairSound _ _ (2 + 5) _ _ _ _ (zWd_loc (d := 2) (by decide)) (zrg hS (by decide)) (2 + 5) _ _ _ _ (zWd_loc (d := 2) (by decide)) (zrg hS (by decide))) ks_X2_370 rfl rfl (Nat.le_of_ble_eq_true rfl) ⟨(Nat.le_of_ble_eq_true rfl), (Nat.le_of_ble_eq_true rfl)⟩ ⟨(Nat.le_of_ble_eq_true rfl), (Nat.le_of_ble_eq_true rfl)⟩ dX2_arePairsSound_38 (fun _ _ z => False.elim z) (fun v9 ws9 h33 => ?_)
  obtain ⟨rfl, hw9⟩ := h33
  subst ws9
  dsimp only [mPush]
  refine r_if_neB (tgt := 46) hX dX2_arePairsSound_41 (by decide) (fun _ => ?_) (fun q => absurd q (by decide))
  refine r_iincZ (z := 1) (y := 3) hX dX2_arePairsSound_46 rfl (by decide) rfl rfl ?_
  refine r_goto (tgt := 13) hX dX2_arePairsSound_49 (by decide) ?_
  refine r_iload_n hX dX2_arePairsSound_13 rfl rfl ?_
  refine r_aload_n hX dX2_arePairsSound_14 rfl rfl ?_
  refine r_get hX kf_X2_20 0 rfl rfl dX2_arePairsSound_15 ?_
  refine r_alen (v := iZ 4) hX 3 2 rfl rfl rfl dX2_arePairsSound_18 ?_
  refine r_icmp_geZ (tgt := 52) hX dX2_arePairsSound_19 (by decide) (by decide) (by decide) (fun q => absurd q (by decide)) (fun _ => ?_)
  refine r_aload_n hX dX2_arePairsSound_22 rfl rfl ?_
  refine r_get hX kf_X2_20 0 rfl rfl dX2_arePairsSound_23 ?_
  refine r_iload_n hX dX2_arePairsSound_26 rfl rfl ?_
  refine r_callS hX (z_X2_at_ok ad cs _ 3 _ 4 0 rfl (by decide) _ 2 (by omega) (by decide)) ks_X2_84 rfl rfl (Nat.le_of_ble_eq_true rfl) ⟨(Nat.le_of_ble_eq_true rfl), (Nat.le_of_ble_eq_true rfl)⟩ ⟨(Nat.le_of_ble_eq_true rfl), (Nat.le_of_ble_eq_true rfl)⟩ dX2_arePairsSound_27 (fun _ _ z => False.elim z) (fun v9 ws9 h34 => ?_)
  obtain ⟨rfl, hw9⟩ := h34
  subst ws9
  dsimp only [mPush]
  refine r_aload_n hX dX2_arePairsSound_30 rfl rfl ?_
  refine r_get hX kf_X2_20 0 rfl rfl dX2_arePairsSound_31 ?_
  refine r_iload_n hX dX2_arePairsSound_34 rfl rfl ?_
  refine r_callS hX (z_X2_at_ok ad cs _ 3 _ 4 0 rfl (by decide) _ 3 (by omega) (by decide)) ks_X2_84 rfl rfl (Nat.le_of_ble_eq_true rfl) ⟨(Nat.le_of_ble_eq_true rfl), (Nat.le_of_ble_eq_true rfl)⟩ ⟨(Nat.le_of_ble_eq_true rfl), (Nat.le_of_ble_eq_true rfl)⟩ dX2_arePairsSound_35 (fun _ _ z => False.elim z) (fun v9 ws9 h35 => ?_)
  obtain ⟨rfl, hw9⟩ := h35
  subst ws9
  dsimp only [mPush]
  refine r_callS hX (z_X2_isPairSound _ _ (2 + 5) _ _ _ _ (zWd_loc (d := 2) (by decide)) (zrg hS (by decide)) (3 + 5) _ _ _ _ (zWd_loc (d := 3) (by decide)) (zrg hS (by decide))) ks_X2_370 rfl rfl (Nat.le_of_ble_eq_true rfl) ⟨(Nat.le_of_ble_eq_true rfl), (Nat.le_of_ble_eq_true rfl)⟩ ⟨(Nat.le_of_ble_eq_true rfl), (Nat.le_of_ble_eq_true rfl)⟩ dX2_arePairsSound_38 (fun _ _ z => False.elim z) (fun v9 ws9 h36 => ?_)
  obtain ⟨rfl, hw9⟩ := h36
  subst ws9
  dsimp only [mPush]
  refine r_if_neB (tgt := 46) hX dX2_arePairsSound_41 (by decide) (fun _ => ?_) (fun q => absurd q (by decide))
  refine r_iincZ (z := 1) (y := 4) hX dX2_arePairsSound_46 rfl (by decide) rfl rfl ?_
  refine r_goto (tgt := 13) hX dX2_arePairsSound_49 (by decide) ?_
  refine r_iload_n hX dX2_arePairsSound_13 rfl rfl ?_
  refine r_aload_n hX dX2_arePairsSound_14 rfl rfl ?_
  refine r_get hX kf_X2_20 0 rfl rfl dX2_arePairsSound_15 ?_
  refine r_alen (v := iZ 4) hX 3 2 rfl rfl rfl dX2_arePairsSound_18 ?_
  refine r_icmp_geZ (tgt := 52) hX dX2_arePairsSound_19 (by decide) (by decide) (by decide) (fun _ => ?_) (fun q => absurd (by decide) q)
  refine r_iincZ (z := 1) (y := 3) hX dX2_arePairsSound_52 rfl (by decide) rfl rfl ?_
  refine r_goto (tgt := 2) hX dX2_arePairsSound_55 (by decide) ?_
  refine r_iload_n hX dX2_arePairsSound_2 rfl rfl ?_
  refine r_aload_n hX dX2_arePairsSound_3 rfl rfl ?_
  refine r_get hX kf_X2_20 0 rfl rfl dX2_arePairsSound_4 ?_
  refine r_alen (v := iZ 4) hX 3 2 rfl rfl rfl dX2_arePairsSound_7 ?_
  refine r_icmp_geZ (tgt := 58) hX dX2_arePairsSound_8 (by decide) (by decide) (by decide) (fun q => absurd q (by decide)) (fun _ => ?_)
  refine r_iconstZ hX dX2_arePairsSound_11 ?_
  refine r_istore_n hX dX2_arePairsSound_12 rfl (by decide) rfl ?_
  refine r_iload_n hX dX2_arePairsSound_13 rfl rfl ?_
  refine r_aload_n hX dX2_arePairsSound_14 rfl rfl ?_
  refine r_get hX kf_X2_20 0 rfl rfl dX2_arePairsSound_15 ?_
  refine r_alen (v := iZ 4) hX 3 2 rfl rfl rfl dX2_arePairsSound_18 ?_
  refine r_icmp_geZ (tgt := 52) hX dX2_arePairsSound_19 (by decide) (by decide) (by decide) (fun q => absurd q (by decide)) (fun _ => ?_)
  refine r_aload_n hX dX2_arePairsSound_22 rfl rfl ?_
  refine r_get hX kf_X2_20 0 rfl rfl dX2_arePairsSound_23 ?_
  refine r_iload_n hX dX2_arePairsSound_26 rfl rfl ?_
  refine r_callS hX (z_X2_at_ok ad cs _ 3 _ 4 0 rfl (by decide) _ 3 (by omega) (by decide)) ks_X2_84 rfl rfl (Nat.le_of_ble_eq_true rfl) ⟨(Nat.le_of_ble_eq_true rfl), (Nat.le_of_ble_eq_true rfl)⟩ ⟨(Nat.le_of_ble_eq_true rfl), (Nat.le_of_ble_eq_true rfl)⟩ dX2_arePairsSound_27 (fun _ _ z => False.elim z) (fun v9 ws9 h37 => ?_)
  obtain ⟨rfl, hw9⟩ := h37
  subst ws9
  dsimp only [mPush]
  refine r_aload_n hX dX2_arePairsSound_30 rfl rfl ?_
  refine r_get hX kf_X2_20 0 rfl rfl dX2_arePairsSound_31 ?_
  refine r_iload_n hX dX2_arePairsSound_34 rfl rfl ?_
  refine r_callS hX (z_X2_at_ok ad cs _ 3 _ 4 0 rfl (by decide) _ 0 (by omega) (by decide)) ks_X2_84 rfl rfl (Nat.le_of_ble_eq_true rfl) ⟨(Nat.le_of_ble_eq_true rfl), (Nat.le_of_ble_eq_true rfl)⟩ ⟨(Nat.le_of_ble_eq_true rfl), (Nat.le_of_ble_eq_true rfl)⟩ dX2_arePairsSound_35 (fun _ _ z => False.elim z) (fun v9 ws9 h38 => ?_)
  obtain ⟨rfl, hw9⟩ := h38
  subst ws9
  dsimp only [mPush]
  refine r_callS hX (z_X2_isPairSound _ _ (3 + 5) _ _ _ _ (zWd_loc (d := 3) (by decide)) (zrg hS (by decide)) (0 + 5) _ _ _ _ (zWd_loc (d := 0) (by decide)) (zrg hS (by decide))) ks_X2_370 rfl rfl (Nat.le_of_ble_eq_true rfl) ⟨(Nat.le_of_ble_eq_true rfl), (Nat.le_of_ble_eq_true rfl)⟩ ⟨(Nat.le_of_ble_eq_true rfl), (Nat.le_of_ble_eq_true rfl)⟩ dX2_arePairsSound_38 (fun _ _ z => False.elim z) (fun v9 ws9 h39 => ?_)
  obtain ⟨rfl, hw9⟩ := h39
  subst ws9
  dsimp only [mPush]
  refine r_if_neB (tgt := 46) hX dX2_arePairsSound_41 (by decide) (fun _ => ?_) (fun q => absurd q (by decide))
  refine r_iincZ (z := 1) (y := 1) hX dX2_arePairsSound_46 rfl (by decide) rfl rfl ?_
  refine r_goto (tgt := 13) hX dX2_arePairsSound_49 (by decide) ?_
  refine r_iload_n hX dX2_arePairsSound_13 rfl rfl ?_
  refine r_aload_n hX dX2_arePairsSound_14 rfl rfl ?_
  refine r_get hX kf_X2_20 0 rfl rfl dX2_arePairsSound_15 ?_
  refine r_alen (v := iZ 4) hX 3 2 rfl rfl rfl dX2_arePairsSound_18 ?_
  refine r_icmp_geZ (tgt := 52) hX dX2_arePairsSound_19 (by decide) (by decide) (by decide) (fun q => absurd q (by decide)) (fun _ => ?_)
  refine r_aload_n hX dX2_arePairsSound_22 rfl rfl ?_
  refine r_get hX kf_X2_20 0 rfl rfl dX2_arePairsSound_23 ?_
  refine r_iload_n hX dX2_arePairsSound_26 rfl rfl ?_
  refine r_callS hX (z_X2_at_ok ad cs _ 3 _ 4 0 rfl (by decide) _ 3 (by omega) (by decide)) ks_X2_84 rfl rfl (Nat.le_of_ble_eq_true rfl) ⟨(Nat.le_of_ble_eq_true rfl), (Nat.le_of_ble_eq_true rfl)⟩ ⟨(Nat.le_of_ble_eq_true rfl), (Nat.le_of_ble_eq_true rfl)⟩ dX2_arePairsSound_27 (fun _ _ z => False.elim z) (fun v9 ws9 h40 => ?_)
  obtain ⟨rfl, hw9⟩ := h40
  subst ws9
  dsimp only [mPush]
  refine r_aload_n hX dX2_arePairsSound_30 rfl rfl ?_
  refine r_get hX kf_X2_20 0 rfl rfl dX2_arePairsSound_31 ?_
  refine r_iload_n hX dX2_arePairsSound_34 rfl rfl ?_
  refine r_callS hX (z_X2_at_ok ad cs _ 3 _ 4 0 rfl (by decide) _ 1 (by omega) (by decide)) ks_X2_84 rfl rfl (Nat.le_of_ble_eq_true rfl) ⟨(Nat.le_of_ble_eq_true rfl), (Nat.le_of_ble_eq_true rfl)⟩ ⟨(Nat.le_of_ble_eq_true rfl), (Nat.le_of_ble_eq_true rfl)⟩ dX2_arePairsSound_35 (fun _ _ z => False.elim z) (fun v9 ws9 h41 => ?_)
  obtain ⟨rfl, hw9⟩ := h41
  subst ws9
  dsimp only [mPush]
  refine r_callS hX (z_X2_isPairSound _ _ (3 + 5) _ _ _ _ (zWd_loc (d := 3) (by decide)) (zrg hS (by decide)) (1 + 5) _ _ _ _ (zWd_loc (d := 1) (by decide)) (zrg hS (by decide))) ks_X2_370 rfl rfl (Nat.le_of_ble_eq_true rfl) ⟨(Nat.le_of_ble_eq_true rfl), (Nat.le_of_ble_eq_true rfl)⟩ ⟨(Nat.le_of_ble_eq_true rfl), (Nat.le_of_ble_eq_true rfl)⟩ dX2_arePairsSound_38 (fun _ _ z => False.elim z) (fun v9 ws9 h42 => ?_)
  obtain ⟨rfl, hw9⟩ := h42
  subst ws9
  dsimp only [mPush]
  refine r_if_neB (tgt := 46) hX dX2_arePairsSound_41 (by decide) (fun _ => ?_) (fun q => absurd q (by decide))
  refine r_iincZ (z := 1) (y := 2) hX dX2_arePairsSound_46 rfl (by decide) rfl rfl ?_
  refine r_goto (tgt := 13) hX dX2_arePairsSound_49 (by decide) ?_
  refine r_iload_n hX dX2_arePairsSound_13 rfl rfl ?_
  refine r_aload_n hX dX2_arePairsSound_14 rfl rfl ?_
  refine r_get hX kf_X2_20 0 rfl rfl dX2_arePairsSound_15 ?_
  refine r_alen (v := iZ 4) hX 3 2 rfl rfl rfl dX2_arePairsSound_18 ?_
  refine r_icmp_geZ (tgt := 52) hX dX2_arePairsSound_19 (by decide) (by decide) (by decide) (fun q => absurd q (by decide)) (fun _ => ?_)
  refine r_aload_n hX dX2_arePairsSound_22 rfl rfl ?_
  refine r_get hX kf_X2_20 0 rfl rfl dX2_arePairsSound_23 ?_
  refine r_iload_n hX dX2_arePairsSound_26 rfl rfl ?_
  refine r_callS hX (z_X2_at_ok ad cs _ 3 _ 4 0 rfl (by decide) _ 3 (by omega) (by decide)) ks_X2_84 rfl rfl (Nat.le_of_ble_eq_true rfl) ⟨(Nat.le_of_ble_eq_true rfl), (Nat.le_of_ble_eq_true rfl)⟩ ⟨(Nat.le_of_ble_eq_true rfl), (Nat.le_of_ble_eq_true rfl)⟩ dX2_arePairsSound_27 (fun _ _ z => False.elim z) (fun v9 ws9 h43 => ?_)
  obtain ⟨rfl, hw9⟩ := h43
  subst ws9
  dsimp only [mPush]
  refine r_aload_n hX dX2_arePairsSound_30 rfl rfl ?_
  refine r_get hX kf_X2_20 0 rfl rfl dX2_arePairsSound_31 ?_
  refine r_iload_n hX dX2_arePairsSound_34 rfl rfl ?_
  refine r_callS hX (z_X2_at_ok ad cs _ 3 _ 4 0 rfl (by decide) _ 2 (by omega) (by decide)) ks_X2_84 rfl rfl (Nat.le_of_ble_eq_true rfl) ⟨(Nat.le_of_ble_eq_true rfl), (Nat.le_of_ble_eq_true rfl)⟩ ⟨(Nat.le_of_ble_eq_true rfl), (Nat.le_of_ble_eq_true rfl)⟩ dX2_arePairsSound_35 (fun _ _ z => False.elim z) (fun v9 ws9 h44 => ?_)
  obtain ⟨rfl, hw9⟩ := h44
  subst ws9
  dsimp only [mPush]
  refine r_callS hX (z_X2_isPairSound _ _ (3 + 5) _ _ _ _ (zWd_loc (d := 3) (by decide)) (zrg hS (by decide)) (2 + 5) _ _ _ _ (zWd_loc (d := 2) (by decide)) (zrg hS (by decide))) ks_X2_370 rfl rfl (Nat.le_of_ble_eq_true rfl) ⟨(Nat.le_of_ble_eq_true rfl), (Nat.le_of_ble_eq_true rfl)⟩ ⟨(Nat.le_of_ble_eq_true rfl), (Nat.le_of_ble_eq_true rfl)⟩ dX2_arePairsSound_38 (fun _ _ z => False.elim z) (fun v9 ws9 h45 => ?_)
  obtain ⟨rfl, hw9⟩ := h45
  subst ws9
  dsimp only [mPush]
  refine r_if_neB (tgt := 46) hX dX2_arePairsSound_41 (by decide) (fun _ => ?_) (fun q => absurd q (by decide))
  refine r_iincZ (z := 1) (y := 3) hX dX2_arePairsSound_46 rfl (by decide) rfl rfl ?_
  refine r_goto (tgt := 13) hX dX2_arePairsSound_49 (by decide) ?_
  refine r_iload_n hX dX2_arePairsSound_13 rfl rfl ?_
  refine r_aload_n hX dX2_arePairsSound_14 rfl rfl ?_
  refine r_get hX kf_X2_20 0 rfl rfl dX2_arePairsSound_15 ?_
  refine r_alen (v := iZ 4) hX 3 2 rfl rfl rfl dX2_arePairsSound_18 ?_
  refine r_icmp_geZ (tgt := 52) hX dX2_arePairsSound_19 (by decide) (by decide) (by decide) (fun q => absurd q (by decide)) (fun _ => ?_)
  refine r_aload_n hX dX2_arePairsSound_22 rfl rfl ?_
  refine r_get hX kf_X2_20 0 rfl rfl dX2_arePairsSound_23 ?_
  refine r_iload_n hX dX2_arePairsSound_26 rfl rfl ?_
  refine r_callS hX (z_X2_at_ok ad cs _ 3 _ 4 0 rfl (by decide) _ 3 (by omega) (by decide)) ks_X2_84 rfl rfl (Nat.le_of_ble_eq_true rfl) ⟨(Nat.le_of_ble_eq_true rfl), (Nat.le_of_ble_eq_true rfl)⟩ ⟨(Nat.le_of_ble_eq_true rfl), (Nat.le_of_ble_eq_true rfl)⟩ dX2_arePairsSound_27 (fun _ _ z => False.elim z) (fun v9 ws9 h46 => ?_)
  obtain ⟨rfl, hw9⟩ := h46
  subst ws9
  dsimp only [mPush]
  refine r_aload_n hX dX2_arePairsSound_30 rfl rfl ?_
  refine r_get hX kf_X2_20 0 rfl rfl dX2_arePairsSound_31 ?_
  refine r_iload_n hX dX2_arePairsSound_34 rfl rfl ?_
  refine r_callS hX (z_X2_at_ok ad cs _ 3 _ 4 0 rfl (by decide) _ 3 (by omega) (by decide)) ks_X2_84 rfl rfl (Nat.le_of_ble_eq_true rfl) ⟨(Nat.le_of_ble_eq_true rfl), (Nat.le_of_ble_eq_true rfl)⟩ ⟨(Nat.le_of_ble_eq_true rfl), (Nat.le_of_ble_eq_true rfl)⟩ dX2_arePairsSound_35 (fun _ _ z => False.elim z) (fun v9 ws9 h47 => ?_)
  obtain ⟨rfl, hw9⟩ := h47
  subst ws9
  dsimp only [mPush]
  refine r_callS hX (z_X2_isPairSound _ _ (3 + 5) _ _ _ _ (zWd_loc (d := 3) (by decide)) (zrg hS (by decide)) (3 + 5) _ _ _ _ (zWd_loc (d := 3) (by decide)) (zrg hS (by decide))) ks_X2_370 rfl rfl (Nat.le_of_ble_eq_true rfl) ⟨(Nat.le_of_ble_eq_true rfl), (Nat.le_of_ble_eq_true rfl)⟩ ⟨(Nat.le_of_ble_eq_true rfl), (Nat.le_of_ble_eq_true rfl)⟩ dX2_arePairsSound_38 (fun _ _ z => False.elim z) (fun v9 ws9 h48 => ?_)
  obtain ⟨rfl, hw9⟩ := h48
  subst ws9
  dsimp only [mPush]
  refine r_if_neB (tgt := 46) hX dX2_arePairsSound_41 (by decide) (fun _ => ?_) (fun q => absurd q (by decide))
  refine r_iincZ (z := 1) (y := 4) hX dX2_arePairsSound_46 rfl (by decide) rfl rfl ?_
  refine r_goto (tgt := 13) hX dX2_arePairsSound_49 (by decide) ?_
  refine r_iload_n hX dX2_arePairsSound_13 rfl rfl ?_
  refine r_aload_n hX dX2_arePairsSound_14 rfl rfl ?_
  refine r_get hX kf_X2_20 0 rfl rfl dX2_arePairsSound_15 ?_
  refine r_alen (v := iZ 4) hX 3 2 rfl rfl rfl dX2_arePairsSound_18 ?_
  refine r_icmp_geZ (tgt := 52) hX dX2_arePairsSound_19 (by decide) (by decide) (by decide) (fun _ => ?_) (fun q => absurd (by decide) q)
  refine r_iincZ (z := 1) (y := 4) hX dX2_arePairsSound_52 rfl (by decide) rfl rfl ?_
  refine r_goto (tgt := 2) hX dX2_arePairsSound_55 (by decide) ?_
  refine r_iload_n hX dX2_arePairsSound_2 rfl rfl ?_
  refine r_aload_n hX dX2_arePairsSound_3 rfl rfl ?_
  refine r_get hX kf_X2_20 0 rfl rfl dX2_arePairsSound_4 ?_
  refine r_alen (v := iZ 4) hX 3 2 rfl rfl rfl dX2_arePairsSound_7 ?_
  refine r_icmp_geZ (tgt := 58) hX dX2_arePairsSound_8 (by decide) (by decide) (by decide) (fun _ => ?_) (fun q => absurd (by decide) q)
  refine r_iconstZ hX dX2_arePairsSound_58 ?_
  exact r_zret hX hE dX2_arePairsSound_59 (by decide) (Nat.le_of_ble_eq_true rfl) (Nat.le_of_ble_eq_true rfl) ⟨rfl, _, rfl⟩
set_option maxHeartbeats 4000000 in
set_option maxRecDepth 20000 in
theorem z_X2_areStrikesSound (ad : Nat → Nat) (cs : ClassId × ClassId × ClassId) (S : mS) (T : mT2) (rest : va_W) (hS : sWF S)  : mCt (mTy cs) yX2_areStrikesSound cX2_areStrikesSound 3 (some .boolean) ⟨3, 0, 0, 65⟩ [.ref (ad 0)] (mWd ad cs (mKof S T) rest) (fun v ws' => v = some (.int (b2i true)) ∧ ∃ T' : mT2, ws' = mWd ad cs (mKof S T') rest) mNo := by
  refine mCt.of (by decide +kernel) (Nat.le_of_ble_eq_true rfl) (fun X hX hE => ?_)
  replace hX : mOK X RX2 cX2_areStrikesSound 3 ⟨3, 0, 0, 65⟩ [] (mTy cs) := hX
  have hr0 := zrg hS (d := 0) (by decide)
  have hr1 := zrg hS (d := 1) (by decide)
  have hr2 := zrg hS (d := 2) (by decide)
  have hr3 := zrg hS (d := 3) (by decide)
  refine r_iconstZ hX dX2_areStrikesSound_0 ?_
  refine r_istore_n hX dX2_areStrikesSound_1 rfl (by decide) rfl ?_
  refine r_iload_n hX dX2_areStrikesSound_2 rfl rfl ?_
  refine r_aload_n hX dX2_areStrikesSound_3 rfl rfl ?_
  refine r_get hX kf_X2_20 0 rfl rfl dX2_areStrikesSound_4 ?_
  refine r_alen (v := iZ 4) hX 3 2 rfl rfl rfl dX2_areStrikesSound_7 ?_
  refine r_icmp_geZ (tgt := 92) hX dX2_areStrikesSound_8 (by decide) (by decide) (by decide) (fun q => absurd q (by decide)) (fun _ => ?_)
  refine r_aload_n hX dX2_areStrikesSound_11 rfl rfl ?_
  refine r_get hX kf_X2_20 0 rfl rfl dX2_areStrikesSound_12 ?_
  refine r_iload_n hX dX2_areStrikesSound_15 rfl rfl ?_
  refine r_callS hX (z_X2_at_ok ad cs _ 3 _ 4 0 rfl (by decide) _ 0 (by omega) (by decide)) ks_X2_84 rfl rfl (Nat.le_of_ble_eq_true rfl) ⟨(Nat.le_of_ble_eq_true rfl), (Nat.le_of_ble_eq_true rfl)⟩ ⟨(Nat.le_of_ble_eq_true rfl), (Nat.le_of_ble_eq_true rfl)⟩ dX2_areStrikesSound_16 (fun _ _ z => False.elim z) (fun v9 ws9 h1 => ?_)
  obtain ⟨rfl, hw9⟩ := h1
  subst ws9
  dsimp only [mPush]
  refine r_astore_n hX dX2_areStrikesSound_19 rfl (by decide) rfl ?_
  refine r_aload_n hX dX2_areStrikesSound_20 rfl rfl ?_
  refine r_get hX kf_X2_31 0 rfl rfl dX2_areStrikesSound_21 ?_
  refine r_aload_n hX dX2_areStrikesSound_24 rfl rfl ?_
  refine r_callV hX (z_X1_secondOfDay _ _ (0 + 5) _ _ _ _ (zWd_loc (d := 0) (by decide)) (zrg hS (by decide))) kv_X2_320 (0 + 5) (zWd_loc (d := 0) (by decide)) rfl rfl rfl (Nat.le_of_ble_eq_true rfl) ⟨(Nat.le_of_ble_eq_true rfl), (Nat.le_of_ble_eq_true rfl)⟩ ⟨(Nat.le_of_ble_eq_true rfl), (Nat.le_of_ble_eq_true rfl)⟩ dX2_areStrikesSound_25 (fun _ _ z => False.elim z) (fun v9 ws9 h2 => ?_)
  obtain ⟨rfl, hw9⟩ := h2
  subst ws9
  dsimp only [mPush]
  refine r_i2lZ hX dX2_areStrikesSound_28 (by omega) ?_
  refine r_aload_n hX dX2_areStrikesSound_29 rfl rfl ?_
  refine r_getN hX kg_X2_172 (0 + 5) (zWd_loc (d := 0) (by decide)) rfl dX2_areStrikesSound_30 ?_
  refine r_aload_n hX dX2_areStrikesSound_33 rfl rfl ?_
  refine r_getN hX kg_X2_158 (0 + 5) (zWd_loc (d := 0) (by decide)) rfl dX2_areStrikesSound_34 ?_
  refine r_callV hX (c_X1_tell _ _ 13 _ _ _ _ zWd_h2 _ _ _) kv_X2_270 13 zWd_h2 rfl rfl rfl (Nat.le_of_ble_eq_true rfl) ⟨(Nat.le_of_ble_eq_true rfl), (Nat.le_of_ble_eq_true rfl)⟩ ⟨(Nat.le_of_ble_eq_true rfl), (Nat.le_of_ble_eq_true rfl)⟩ dX2_areStrikesSound_37 (fun _ _ z => False.elim z) (fun v9 ws9 h3 => ?_)
  obtain ⟨rfl, hw9⟩ := h3
  subst ws9
  dsimp only [mPush]
  refine r_eqw zWd_t2 ?_
  refine r_aload_n hX dX2_areStrikesSound_40 rfl rfl ?_
  refine r_get hX kf_X2_27 0 rfl rfl dX2_areStrikesSound_41 ?_
  refine r_aload_n hX dX2_areStrikesSound_44 rfl rfl ?_
  refine r_callV hX (z_X1_beginOfDay _ _ (0 + 5) _ _ _ _ (zWd_loc (d := 0) (by decide)) (zrg hS (by decide))) kv_X2_190 (0 + 5) (zWd_loc (d := 0) (by decide)) rfl rfl rfl (Nat.le_of_ble_eq_true rfl) ⟨(Nat.le_of_ble_eq_true rfl), (Nat.le_of_ble_eq_true rfl)⟩ ⟨(Nat.le_of_ble_eq_true rfl), (Nat.le_of_ble_eq_true rfl)⟩ dX2_areStrikesSound_45 (fun _ _ z => False.elim z) (fun v9 ws9 h4 => ?_)
  obtain ⟨rfl, hw9⟩ := h4
  subst ws9
  dsimp only [mPush]
  refine r_aload_n hX dX2_areStrikesSound_48 rfl rfl ?_
  refine r_get hX kf_X2_31 0 rfl rfl dX2_areStrikesSound_49 ?_
  refine r_getN hX kg_X2_146 13 zWd_g2 rfl dX2_areStrikesSound_52 ?_
  refine r_laddZ hX dX2_areStrikesSound_55 ?_
  refine r_aload_n hX dX2_areStrikesSound_56 rfl rfl ?_
  refine r_get hX kf_X2_31 0 rfl rfl dX2_areStrikesSound_57 ?_
  refine r_getN hX kg_X2_172 13 zWd_g2 rfl dX2_areStrikesSound_60 ?_
  refine r_aload_n hX dX2_areStrikesSound_63 rfl rfl ?_
  refine r_get hX kf_X2_31 0 rfl rfl dX2_areStrikesSound_64 ?_
  refine r_getN hX kg_X2_158 13 zWd_g2 rfl dX2_areStrikesSound_67 ?_
  refine r_callV hX (c_X1_tell _ _ 12 _ _ _ _ zWd_h1 _ _ _) kv_X2_270 12 zWd_h1 rfl rfl rfl (Nat.le_of_ble_eq_true rfl) ⟨(Nat.le_of_ble_eq_true rfl), (Nat.le_of_ble_eq_true rfl)⟩ ⟨(Nat.le_of_ble_eq_true rfl), (Nat.le_of_ble_eq_true rfl)⟩ dX2_areStrikesSound_70 (fun _ _ z => False.elim z) (fun v9 ws9 h5 => ?_)
  obtain ⟨rfl, hw9⟩ := h5
  subst ws9
  dsimp only [mPush]
  refine r_eqw zWd_t1 ?_
  refine r_aload_n hX dX2_areStrikesSound_73 rfl rfl ?_
  refine r_get hX kf_X2_27 0 rfl rfl dX2_areStrikesSound_74 ?_
  refine r_aload_n hX dX2_areStrikesSound_77 rfl rfl ?_
  refine r_callV hX (z_X1_isSame _ _ 12 _ _ _ _ zWd_g1 (by omega) (0 + 5) _ _ _ _ (zWd_loc (d := 0) (by decide)) (zrg hS (by decide))) kv_X2_363 12 zWd_g1 rfl rfl rfl (Nat.le_of_ble_eq_true rfl) ⟨(Nat.le_of_ble_eq_true rfl), (Nat.le_of_ble_eq_true rfl)⟩ ⟨(Nat.le_of_ble_eq_true rfl), (Nat.le_of_ble_eq_true rfl)⟩ dX2_areStrikesSound_78 (fun _ _ z => False.elim z) (fun v9 ws9 h6 => ?_)
  obtain ⟨rfl, hw9⟩ := h6
  subst ws9
  dsimp only [mPush]
  refine r_if_neB (tgt := 86) hX dX2_areStrikesSound_81 (by decide) (fun c7 => ?_) (fun c7 => ?_)
  · have c7 := of_decide_eq_true c7
    refine r_iincZ (z := 1) (y := 1) hX dX2_areStrikesSound_86 rfl (by decide) rfl rfl ?_
    refine r_goto (tgt := 2) hX dX2_areStrikesSound_89 (by decide) ?_
    refine r_iload_n hX dX2_areStrikesSound_2 rfl rfl ?_
    refine r_aload_n hX dX2_areStrikesSound_3 rfl rfl ?_
    refine r_get hX kf_X2_20 0 rfl rfl dX2_areStrikesSound_4 ?_
    refine r_alen (v := iZ 4) hX 3 2 rfl rfl rfl dX2_areStrikesSound_7 ?_
    refine r_icmp_geZ (tgt := 92) hX dX2_areStrikesSound_8 (by decide) (by decide) (by decide) (fun q => absurd q (by decide)) (fun _ => ?_)
    refine r_aload_n hX dX2_areStrikesSound_11 rfl rfl ?_
    refine r_get hX kf_X2_20 0 rfl rfl dX2_areStrikesSound_12 ?_
    refine r_iload_n hX dX2_areStrikesSound_15 rfl rfl ?_
    refine r_callS hX (z_X2_at_ok ad cs _ 3 _ 4 0 rfl (by decide) _ 1 (by omega) (by decide)) ks_X2_84 rfl rfl (Nat.le_of_ble_eq_true rfl) ⟨(Nat.le_of_ble_eq_true rfl), (Nat.le_of_ble_eq_true rfl)⟩ ⟨(Nat.le_of_ble_eq_true rfl), (Nat.le_of_ble_eq_true rfl)⟩ dX2_areStrikesSound_16 (fun _ _ z => False.elim z) (fun v9 ws9 h8 => ?_)
    obtain ⟨rfl, hw9⟩ := h8
    subst ws9
    dsimp only [mPush]
    refine r_astore_n hX dX2_areStrikesSound_19 rfl (by decide) rfl ?_
    refine r_aload_n hX dX2_areStrikesSound_20 rfl rfl ?_
    refine r_get hX kf_X2_31 0 rfl rfl dX2_areStrikesSound_21 ?_
    refine r_aload_n hX dX2_areStrikesSound_24 rfl rfl ?_
    refine r_callV hX (z_X1_secondOfDay _ _ (1 + 5) _ _ _ _ (zWd_loc (d := 1) (by decide)) (zrg hS (by decide))) kv_X2_320 (1 + 5) (zWd_loc (d := 1) (by decide)) rfl rfl rfl (Nat.le_of_ble_eq_true rfl) ⟨(Nat.le_of_ble_eq_true rfl), (Nat.le_of_ble_eq_true rfl)⟩ ⟨(Nat.le_of_ble_eq_true rfl), (Nat.le_of_ble_eq_true rfl)⟩ dX2_areStrikesSound_25 (fun _ _ z => False.elim z) (fun v9 ws9 h9 => ?_)
    obtain ⟨rfl, hw9⟩ := h9
    subst ws9
    dsimp only [mPush]
    refine r_i2lZ hX dX2_areStrikesSound_28 (by omega) ?_
    refine r_aload_n hX dX2_areStrikesSound_29 rfl rfl ?_
    refine r_getN hX kg_X2_172 (1 + 5) (zWd_loc (d := 1) (by decide)) rfl dX2_areStrikesSound_30 ?_
    refine r_aload_n hX dX2_areStrikesSound_33 rfl rfl ?_
    refine r_getN hX kg_X2_158 (1 + 5) (zWd_loc (d := 1) (by decide)) rfl dX2_areStrikesSound_34 ?_
    refine r_callV hX (c_X1_tell _ _ 13 _ _ _ _ zWd_g2 _ _ _) kv_X2_270 13 zWd_g2 rfl rfl rfl (Nat.le_of_ble_eq_true rfl) ⟨(Nat.le_of_ble_eq_true rfl), (Nat.le_of_ble_eq_true rfl)⟩ ⟨(Nat.le_of_ble_eq_true rfl), (Nat.le_of_ble_eq_true rfl)⟩ dX2_areStrikesSound_37 (fun _ _ z => False.elim z) (fun v9 ws9 h10 => ?_)
    obtain ⟨rfl, hw9⟩ := h10
    subst ws9
    dsimp only [mPush]
    refine r_eqw zWd_t2 ?_
    refine r_aload_n hX dX2_areStrikesSound_40 rfl rfl ?_
    refine r_get hX kf_X2_27 0 rfl rfl dX2_areStrikesSound_41 ?_
    refine r_aload_n hX dX2_areStrikesSound_44 rfl rfl ?_
    refine r_callV hX (z_X1_beginOfDay _ _ (1 + 5) _ _ _ _ (zWd_loc (d := 1) (by decide)) (zrg hS (by decide))) kv_X2_190 (1 + 5) (zWd_loc (d := 1) (by decide)) rfl rfl rfl (Nat.le_of_ble_eq_true rfl) ⟨(Nat.le_of_ble_eq_true rfl), (Nat.le_of_ble_eq_true rfl)⟩ ⟨(Nat.le_of_ble_eq_true rfl), (Nat.le_of_ble_eq_true rfl)⟩ dX2_areStrikesSound_45 (fun _ _ z => False.elim z) (fun v9 ws9 h11 => ?_)
    obtain ⟨rfl, hw9⟩ := h11
    subst ws9
    dsimp only [mPush]
    refine r_aload_n hX dX2_areStrikesSound_48 rfl rfl ?_
    refine r_get hX kf_X2_31 0 rfl rfl dX2_areStrikesSound_49 ?_
    refine r_getN hX kg_X2_146 13 zWd_g2 rfl dX2_areStrikesSound_52 ?_
    refine r_laddZ hX dX2_areStrikesSound_55 ?_
    refine r_aload_n hX dX2_areStrikesSound_56 rfl rfl ?_
    refine r_get hX kf_X2_31 0 rfl rfl dX2_areStrikesSound_57 ?_
    refine r_getN hX kg_X2_172 13 zWd_g2 rfl dX2_areStrikesSound_60 ?_
    refine r_aload_n hX dX2_areStrikesSound_63 rfl rfl ?_
    refine r_get hX kf_X2_31 0 rfl rfl dX2_areStrikesSound_64 ?_
    refine r_getN hX kg_X2_158 13 zWd_g2 rfl dX2_areStrikesSound_67 ?_
    refine r_callV hX (c_X1_tell _ _ 12 _ _ _ _ zWd_g1 _ _ _) kv_X2_270 12 zWd_g1 rfl rfl rfl (Nat.le_of_ble_eq_true rfl) ⟨(Nat.le_of_ble_eq_true rfl), (Nat.le_of_ble_eq_true rfl)⟩ ⟨(Nat.le_of_ble_eq_true rfl), (Nat.le_of_ble_eq_true rfl)⟩ dX2_areStrikesSound_70 (fun _ _ z => False.elim z) (fun v9 ws9 h12 => ?_)
    obtain ⟨rfl, hw9⟩ := h12
    subst ws9
    dsimp only [mPush]
    refine r_eqw zWd_t1 ?_
    refine r_aload_n hX dX2_areStrikesSound_73 rfl rfl ?_
    refine r_get hX kf_X2_27 0 rfl rfl dX2_areStrikesSound_74 ?_
    refine r_aload_n hX dX2_areStrikesSound_77 rfl rfl ?_
    refine r_callV hX (z_X1_isSame _ _ 12 _ _ _ _ zWd_g1 (by omega) (1 + 5) _ _ _ _ (zWd_loc (d := 1) (by decide)) (zrg hS (by decide))) kv_X2_363 12 zWd_g1 rfl rfl rfl (Nat.le_of_ble_eq_true rfl) ⟨(Nat.le_of_ble_eq_true rfl), (Nat.le_of_ble_eq_true rfl)⟩ ⟨(Nat.le_of_ble_eq_true rfl), (Nat.le_of_ble_eq_true rfl)⟩ dX2_areStrikesSound_78 (fun _ _ z => False.elim z) (fun v9 ws9 h13 => ?_)
    obtain ⟨rfl, hw9⟩ := h13
    subst ws9
    dsimp only [mPush]
    refine r_if_neB (tgt := 86) hX dX2_areStrikesSound_81 (by decide) (fun c14 => ?_) (fun c14 => ?_)
    · have c14 := of_decide_eq_true c14
      refine r_iincZ (z := 1) (y := 2) hX dX2_areStrikesSound_86 rfl (by decide) rfl rfl ?_
      refine r_goto (tgt := 2) hX dX2_areStrikesSound_89 (by decide) ?_
      refine r_iload_n hX dX2_areStrikesSound_2 rfl rfl ?_
      refine r_aload_n hX dX2_areStrikesSound_3 rfl rfl ?_
      refine r_get hX kf_X2_20 0 rfl rfl dX2_areStrikesSound_4 ?_
      refine r_alen (v := iZ 4) hX 3 2 rfl rfl rfl dX2_areStrikesSound_7 ?_
      refine r_icmp_geZ (tgt := 92) hX dX2_areStrikesSound_8 (by decide) (by decide) (by decide) (fun q => absurd q (by decide)) (fun _ => ?_)
      refine r_aload_n hX dX2_areStrikesSound_11 rfl rfl ?_
      refine r_get hX kf_X2_20 0 rfl rfl dX2_areStrikesSound_12 ?_
      refine r_iload_n hX dX2_areStrikesSound_15 rfl rfl ?_
      refine r_callS hX (z_X2_at_ok ad cs _ 3 _ 4 0 rfl (by decide) _ 2 (by omega) (by decide)) ks_X2_84 rfl rfl (Nat.le_of_ble_eq_true rfl) ⟨(Nat.le_of_ble_eq_true rfl), (Nat.le_of_ble_eq_true rfl)⟩ ⟨(Nat.le_of_ble_eq_true rfl), (Nat.le_of_ble_eq_true rfl)⟩ dX2_areStrikesSound_16 (fun _ _ z => False.elim z) (fun v9 ws9 h15 => ?_)
      obtain ⟨rfl, hw9⟩ := h15
      subst ws9
      dsimp only [mPush]
      refine r_astore_n hX dX2_areStrikesSound_19 rfl (by decide) rfl ?_
      refine r_aload_n hX dX2_areStrikesSound_20 rfl rfl ?_
      refine r_get hX kf_X2_31 0 rfl rfl dX2_areStrikesSound_21 ?_
      refine r_aload_n hX dX2_areStrikesSound_24 rfl rfl ?_
      refine r_callV hX (z_X1_secondOfDay _ _ (2 + 5) _ _ _ _ (zWd_loc (d := 2) (by decide)) (zrg hS (by decide))) kv_X2_320 (2 + 5) (zWd_loc (d := 2) (by decide)) rfl rfl rfl (Nat.le_of_ble_eq_true rfl) ⟨(Nat.le_of_ble_eq_true rfl), (Nat.le_of_ble_eq_true rfl)⟩ ⟨(Nat.le_of_ble_eq_true rfl), (Nat.le_of_ble_eq_true rfl)⟩ dX2_areStrikesSound_25 (fun _ _ z => False.elim z) (fun v9 ws9 h16 => ?_)
      obtain ⟨rfl, hw9⟩ := h16
      subst ws9
      dsimp only [mPush]
      refine r_i2lZ hX dX2_areStrikesSound_28 (by omega) ?_
      refine r_aload_n hX dX2_areStrikesSound_29 rfl rfl ?_
      refine r_getN hX kg_X2_172 (2 + 5) (zWd_loc (d := 2) (by decide)) rfl dX2_areStrikesSound_30 ?_
      refine r_aload_n hX dX2_areStrikesSound_33 rfl rfl ?_
      refine r_getN hX kg_X2_158 (2 + 5) (zWd_loc (d := 2) (by decide)) rfl dX2_areStrikesSound_34 ?_
      refine r_callV hX (c_X1_tell _ _ 13 _ _ _ _ zWd_g2 _ _ _) kv_X2_270 13 zWd_g2 rfl rfl rfl (Nat.le_of_ble_eq_true rfl) ⟨(Nat.le_of_ble_eq_true rfl), (Nat.le_of_ble_eq_true rfl)⟩ ⟨(Nat.le_of_ble_eq_true rfl), (Nat.le_of_ble_eq_true rfl)⟩ dX2_areStrikesSound_37 (fun _ _ z => False.elim z) (fun v9 ws9 h17 => ?_)
      obtain ⟨rfl, hw9⟩ := h17
      subst ws9
      dsimp only [mPush]
      refine r_eqw zWd_t2 ?_
      refine r_aload_n hX dX2_areStrikesSound_40 rfl rfl ?_
      refine r_get hX kf_X2_27 0 rfl rfl dX2_areStrikesSound_41 ?_
      refine r_aload_n hX dX2_areStrikesSound_44 rfl rfl ?_
      refine r_callV hX (z_X1_beginOfDay _ _ (2 + 5) _ _ _ _ (zWd_loc (d := 2) (by decide)) (zrg hS (by decide))) kv_X2_190 (2 + 5) (zWd_loc (d := 2) (by decide)) rfl rfl rfl (Nat.le_of_ble_eq_true rfl) ⟨(Nat.le_of_ble_eq_true rfl), (Nat.le_of_ble_eq_true rfl)⟩ ⟨(Nat.le_of_ble_eq_true rfl), (Nat.le_of_ble_eq_true rfl)⟩ dX2_areStrikesSound_45 (fun _ _ z => False.elim z) (fun v9 ws9 h18 => ?_)
      obtain ⟨rfl, hw9⟩ := h18
      subst ws9
      dsimp only [mPush]
      refine r_aload_n hX dX2_areStrikesSound_48 rfl rfl ?_
      refine r_get hX kf_X2_31 0 rfl rfl dX2_areStrikesSound_49 ?_
      refine r_getN hX kg_X2_146 13 zWd_g2 rfl dX2_areStrikesSound_52 ?_
      refine r_laddZ hX dX2_areStrikesSound_55 ?_
      refine r_aload_n hX dX2_areStrikesSound_56 rfl rfl ?_
      refine r_get hX kf_X2_31 0 rfl rfl dX2_areStrikesSound_57 ?_
      refine r_getN hX kg_X2_172 13 zWd_g2 rfl dX2_areStrikesSound_60 ?_
      refine r_aload_n hX dX2_areStrikesSound_63 rfl rfl ?_
      refine r_get hX kf_X2_31 0 rfl rfl dX2_areStrikesSound_64 ?_
      refine r_getN hX kg_X2_158 13 zWd_g2 rfl dX2_areStrikesSound_67 ?_
      refine r_callV hX (c_X1_tell _ _ 12 _ _ _ _ zWd_g1 _ _ _) kv_X2_270 12 zWd_g1 rfl rfl rfl (Nat.le_of_ble_eq_true rfl) ⟨(Nat.le_of_ble_eq_true rfl), (Nat.le_of_ble_eq_true rfl)⟩ ⟨(Nat.le_of_ble_eq_true rfl), (Nat.le_of_ble_eq_true rfl)⟩ dX2_areStrikesSound_70 (fun _ _ z => False.elim z) (fun v9 ws9 h19 => ?_)
      obtain ⟨rfl, hw9⟩ := h19
      subst ws9
      dsimp only [mPush]
      refine r_eqw zWd_t1 ?_
      refine r_aload_n hX dX2_areStrikesSound_73 rfl rfl ?_
      refine r_get hX kf_X2_27 0 rfl rfl dX2_areStrikesSound_74 ?_
      refine r_aload_n hX dX2_areStrikesSound_77 rfl rfl ?_
      refine r_callV hX (z_X1_isSame _ _ 12 _ _ _ _ zWd_g1 (by omega) (2 + 5) _ _ _ _ (zWd_loc (d := 2) (by decide)) (zrg hS (by decide))) kv_X2_363 12 zWd_g1 rfl rfl rfl (Nat.le_of_ble_eq_true rfl) ⟨(Nat.le_of_ble_eq_true rfl), (Nat.le_of_ble_eq_true rfl)⟩ ⟨(Nat.le_of_ble_eq_true rfl), (Nat.le_of_ble_eq_true rfl)⟩ dX2_areStrikesSound_78 (fun _ _ z => False.elim z) (fun v9 ws9 h20 => ?_)
      obtain ⟨rfl, hw9⟩ := h20
      subst ws9
      dsimp only [mPush]
      refine r_if_neB (tgt := 86) hX dX2_areStrikesSound_81 (by decide) (fun c21 => ?_) (fun c21 => ?_)
      · have c21 := of_decide_eq_true c21
        refine r_iincZ (z := 1) (y := 3) hX dX2_areStrikesSound_86 rfl (by decide) rfl rfl ?_
        refine r_goto (tgt := 2) hX dX2_areStrikesSound_89 (by decide) ?_
        refine r_iload_n hX dX2_areStrikesSound_2 rfl rfl ?_
        refine r_aload_n hX dX2_areStrikesSound_3 rfl rfl ?_
        refine r_get hX kf_X2_20 0 rfl rfl dX2_areStrikesSound_4 ?_
        refine r_alen (v := iZ 4) hX 3 2 rfl rfl rfl dX2_areStrikesSound_7 ?_
        refine r_icmp_geZ (tgt := 92) hX dX2_areStrikesSound_8 (by decide) (by decide) (by decide) (fun q => absurd q (by decide)) (fun _ => ?_)
        refine r_aload_n hX dX2_areStrikesSound_11 rfl rfl ?_
        refine r_get hX kf_X2_20 0 rfl rfl dX2_areStrikesSound_12 ?_
        refine r_iload_n hX dX2_areStrikesSound_15 rfl rfl ?_
        refine r_callS hX (z_X2_at_ok ad cs _ 3 _ 4 0 rfl (by decide) _ 3 (by omega) (by decide)) ks_X2_84 rfl rfl (Nat.le_of_ble_eq_true rfl) ⟨(Nat.le_of_ble_eq_true rfl), (Nat.le_of_ble_eq_true rfl)⟩ ⟨(Nat.le_of_ble_eq_true rfl), (Nat.le_of_ble_eq_true rfl)⟩ dX2_areStrikesSound_16 (fun _ _ z => False.elim z) (fun v9 ws9 h22 => ?_)
        obtain ⟨rfl, hw9⟩ := h22
        subst ws9
        dsimp only [mPush]
        refine r_astore_n hX dX2_areStrikesSound_19 rfl (by decide) rfl ?_
        refine r_aload_n hX dX2_areStrikesSound_20 rfl rfl ?_
        refine r_get hX kf_X2_31 0 rfl rfl dX2_areStrikesSound_21 ?_
        refine r_aload_n hX dX2_areStrikesSound_24 rfl rfl ?_
        refine r_callV hX (z_X1_secondOfDay _ _ (3 + 5) _ _ _ _ (zWd_loc (d := 3) (by decide)) (zrg hS (by decide))) kv_X2_320 (3 + 5) (zWd_loc (d := 3) (by decide)) rfl rfl rfl (Nat.le_of_ble_eq_true rfl) ⟨(Nat.le_of_ble_eq_true rfl), (Nat.le_of_ble_eq_true rfl)⟩ ⟨(Nat.le_of_ble_eq_true rfl), (Nat.le_of_ble_eq_true rfl)⟩ dX2_areStrikesSound_25 (fun _ _ z => False.elim z) (fun v9 ws9 h23 => ?_)
        obtain ⟨rfl, hw9⟩ := h23
        subst ws9
        dsimp only [mPush]
        refine r_i2lZ hX dX2_areStrikesSound_28 (by omega) ?_
        refine r_aload_n hX dX2_areStrikesSound_29 rfl rfl ?_
        refine r_getN hX kg_X2_172 (3 + 5) (zWd_loc (d := 3) (by decide)) rfl dX2_areStrikesSound_30 ?_
        refine r_aload_n hX dX2_areStrikesSound_33 rfl rfl ?_
        refine r_getN hX kg_X2_158 (3 + 5) (zWd_loc (d := 3) (by decide)) rfl dX2_areStrikesSound_34 ?_
        refine r_callV hX (c_X1_tell _ _ 13 _ _ _ _ zWd_g2 _ _ _) kv_X2_270 13 zWd_g2 rfl rfl rfl (Nat.le_of_ble_eq_true rfl) ⟨(Nat.le_of_ble_eq_true rfl), (Nat.le_of_ble_eq_true rfl)⟩ ⟨(Nat.le_of_ble_eq_true rfl), (Nat.le_of_ble_eq_true rfl)⟩ dX2_areStrikesSound_37 (fun _ _ z => False.elim z) (fun v9 ws9 h24 => ?_)
        obtain ⟨rfl, hw9⟩ := h24
        subst ws9
        dsimp only [mPush]
        refine r_eqw zWd_t2 ?_
        refine r_aload_n hX dX2_areStrikesSound_40 rfl rfl ?_
        refine r_get hX kf_X2_27 0 rfl rfl dX2_areStrikesSound_41 ?_
        refine r_aload_n hX dX2_areStrikesSound_44 rfl rfl ?_
        refine r_callV hX (z_X1_beginOfDay _ _ (3 + 5) _ _ _ _ (zWd_loc (d := 3) (by decide)) (zrg hS (by decide))) kv_X2_190 (3 + 5) (zWd_loc (d := 3) (by decide)) rfl rfl rfl (Nat.le_of_ble_eq_true rfl) ⟨(Nat.le_of_ble_eq_true rfl), (Nat.le_of_ble_eq_true rfl)⟩ ⟨(Nat.le_of_ble_eq_true rfl), (Nat.le_of_ble_eq_true rfl)⟩ dX2_areStrikesSound_45 (fun _ _ z => False.elim z) (fun v9 ws9 h25 => ?_)
        obtain ⟨rfl, hw9⟩ := h25
        subst ws9
        dsimp only [mPush]
        refine r_aload_n hX dX2_areStrikesSound_48 rfl rfl ?_
        refine r_get hX kf_X2_31 0 rfl rfl dX2_areStrikesSound_49 ?_
        refine r_getN hX kg_X2_146 13 zWd_g2 rfl dX2_areStrikesSound_52 ?_
        refine r_laddZ hX dX2_areStrikesSound_55 ?_
        refine r_aload_n hX dX2_areStrikesSound_56 rfl rfl ?_
        refine r_get hX kf_X2_31 0 rfl rfl dX2_areStrikesSound_57 ?_
        refine r_getN hX kg_X2_172 13 zWd_g2 rfl dX2_areStrikesSound_60 ?_
        refine r_aload_n hX dX2_areStrikesSound_63 rfl rfl ?_
        refine r_get hX kf_X2_31 0 rfl rfl dX2_areStrikesSound_64 ?_
        refine r_getN hX kg_X2_158 13 zWd_g2 rfl dX2_areStrikesSound_67 ?_
        refine r_callV hX (c_X1_tell _ _ 12 _ _ _ _ zWd_g1 _ _ _) kv_X2_270 12 zWd_g1 rfl rfl rfl (Nat.le_of_ble_eq_true rfl) ⟨(Nat.le_of_ble_eq_true rfl), (Nat.le_of_ble_eq_true rfl)⟩ ⟨(Nat.le_of_ble_eq_true rfl), (Nat.le_of_ble_eq_true rfl)⟩ dX2_areStrikesSound_70 (fun _ _ z => False.elim z) (fun v9 ws9 h26 => ?_)
        obtain ⟨rfl, hw9⟩ := h26
        subst ws9
        dsimp only [mPush]
        refine r_eqw zWd_t1 ?_
        refine r_aload_n hX dX2_areStrikesSound_73 rfl rfl ?_
        refine r_get hX kf_X2_27 0 rfl rfl dX2_areStrikesSound_74 ?_
        refine r_aload_n hX dX2_areStrikesSound_77 rfl rfl ?_
        refine r_callV hX (z_X1_isSame _ _ 12 _ _ _ _ zWd_g1 (by omega) (3 + 5) _ _ _ _ (zWd_loc (d := 3) (by decide)) (zrg hS (by decide))) kv_X2_363 12 zWd_g1 rfl rfl rfl (Nat.le_of_ble_eq_true rfl) ⟨(Nat.le_of_ble_eq_true rfl), (Nat.le_of_ble_eq_true rfl)⟩ ⟨(Nat.le_of_ble_eq_true rfl), (Nat.le_of_ble_eq_true rfl)⟩ dX2_areStrikesSound_78 (fun _ _ z => False.elim z) (fun v9 ws9 h27 => ?_)
        obtain ⟨rfl, hw9⟩ := h27
        subst ws9
        dsimp only [mPush]
        refine r_if_neB (tgt := 86) hX dX2_areStrikesSound_81 (by decide) (fun c28 => ?_) (fun c28 => ?_)
        · have c28 := of_decide_eq_true c28
          refine r_iincZ (z := 1) (y := 4) hX dX2_areStrikesSound_86 rfl (by decide) rfl rfl ?_
          refine r_goto (tgt := 2) hX dX2_areStrikesSound_89 (by decide) ?_
          refine r_iload_n hX dX2_areStrikesSound_2 rfl rfl ?_
          refine r_aload_n hX dX2_areStrikesSound_3 rfl rfl ?_
          refine r_get hX kf_X2_20 0 rfl rfl dX2_areStrikesSound_4 ?_
          refine r_alen (v := iZ 4) hX 3 2 rfl rfl rfl dX2_areStrikesSound_7 ?_
          refine r_icmp_geZ (tgt := 92) hX dX2_areStrikesSound_8 (by decide) (by decide) (by decide) (fun _ => ?_) (fun q => absurd (by decide) q)
          refine r_iconstZ hX dX2_areStrikesSound_92 ?_
          exact r_zret hX hE dX2_areStrikesSound_93 (by decide) (Nat.le_of_ble_eq_true rfl) (Nat.le_of_ble_eq_true rfl) ⟨rfl, _, rfl⟩
        · have c28 := of_decide_eq_false c28
          refine r_iconstZ hX dX2_areStrikesSound_84 ?_
          exfalso
          omega
      · have c21 := of_decide_eq_false c21
        refine r_iconstZ hX dX2_areStrikesSound_84 ?_
        exfalso
        omega
    · have c14 := of_decide_eq_false c14
      refine r_iconstZ hX dX2_areStrikesSound_84 ?_
      exfalso
      omega
  · have c7 := of_decide_eq_false c7
    refine r_iconstZ hX dX2_areStrikesSound_84 ?_
    exfalso
    omega
set_option maxHeartbeats 4000000 in
set_option maxRecDepth 20000 in
theorem z_X2_isSound (ad : Nat → Nat) (cs : ClassId × ClassId × ClassId) (S : mS) (T : mT2) (rest : va_W) (hS : sWF S)  : mCt (mTy cs) yX2_isSound cX2_isSound 1 (some .boolean) ⟨5, 0, 0, 112⟩ [.ref (ad 0)] (mWd ad cs (mKof S T) rest) (fun v ws' => v = some (.int (b2i true)) ∧ ∃ T' : mT2, ws' = mWd ad cs (mKof S T') rest) mNo := by
  refine mCt.of (by decide +kernel) (Nat.le_of_ble_eq_true rfl) (fun X hX hE => ?_)
  replace hX : mOK X RX2 cX2_isSound 1 ⟨5, 0, 0, 112⟩ [] (mTy cs) := hX
  refine r_aload_n hX dX2_isSound_0 rfl rfl ?_
  refine r_callV hX (z_X2_areMomentsSound ad cs S T rest hS) kv_X2_208 0 rfl rfl rfl rfl (Nat.le_of_ble_eq_true rfl) ⟨(Nat.le_of_ble_eq_true rfl), (Nat.le_of_ble_eq_true rfl)⟩ ⟨(Nat.le_of_ble_eq_true rfl), (Nat.le_of_ble_eq_true rfl)⟩ dX2_isSound_1 (fun _ _ z => False.elim z) (fun v9 ws9 h1 => ?_)
  obtain ⟨rfl, T2, hw9⟩ := h1
  subst ws9
  dsimp only [mPush]
  refine r_if_eqB (tgt := 32) hX dX2_isSound_4 (by decide) (fun q => absurd q (by decide)) (fun _ => ?_)
  refine r_aload_n hX dX2_isSound_7 rfl rfl ?_
  refine r_callV hX (z_X2_areDatesToldAnewSound ad cs S T2 rest hS) kv_X2_212 0 rfl rfl rfl rfl (Nat.le_of_ble_eq_true rfl) ⟨(Nat.le_of_ble_eq_true rfl), (Nat.le_of_ble_eq_true rfl)⟩ ⟨(Nat.le_of_ble_eq_true rfl), (Nat.le_of_ble_eq_true rfl)⟩ dX2_isSound_8 (fun _ _ z => False.elim z) (fun v9 ws9 h3 => ?_)
  obtain ⟨rfl, T4, hw9⟩ := h3
  subst ws9
  dsimp only [mPush]
  refine r_if_eqB (tgt := 32) hX dX2_isSound_11 (by decide) (fun q => absurd q (by decide)) (fun _ => ?_)
  refine r_aload_n hX dX2_isSound_14 rfl rfl ?_
  refine r_callV hX (z_X2_arePairsSound ad cs S T4 rest hS) kv_X2_215 0 rfl rfl rfl rfl (Nat.le_of_ble_eq_true rfl) ⟨(Nat.le_of_ble_eq_true rfl), (Nat.le_of_ble_eq_true rfl)⟩ ⟨(Nat.le_of_ble_eq_true rfl), (Nat.le_of_ble_eq_true rfl)⟩ dX2_isSound_15 (fun _ _ z => False.elim z) (fun v9 ws9 h5 => ?_)
  obtain ⟨rfl, T6, hw9⟩ := h5
  subst ws9
  dsimp only [mPush]
  refine r_if_eqB (tgt := 32) hX dX2_isSound_18 (by decide) (fun q => absurd q (by decide)) (fun _ => ?_)
  refine r_aload_n hX dX2_isSound_21 rfl rfl ?_
  refine r_callV hX (z_X2_areStrikesSound ad cs S T6 rest hS) kv_X2_218 0 rfl rfl rfl rfl (Nat.le_of_ble_eq_true rfl) ⟨(Nat.le_of_ble_eq_true rfl), (Nat.le_of_ble_eq_true rfl)⟩ ⟨(Nat.le_of_ble_eq_true rfl), (Nat.le_of_ble_eq_true rfl)⟩ dX2_isSound_22 (fun _ _ z => False.elim z) (fun v9 ws9 h7 => ?_)
  obtain ⟨rfl, T8, hw9⟩ := h7
  subst ws9
  dsimp only [mPush]
  refine r_if_eqB (tgt := 32) hX dX2_isSound_25 (by decide) (fun q => absurd q (by decide)) (fun _ => ?_)
  refine r_iconstZ hX dX2_isSound_28 ?_
  refine r_goto (tgt := 33) hX dX2_isSound_29 (by decide) ?_
  exact r_zret hX hE dX2_isSound_33 (by decide) (Nat.le_of_ble_eq_true rfl) (Nat.le_of_ble_eq_true rfl) ⟨rfl, _, rfl⟩

